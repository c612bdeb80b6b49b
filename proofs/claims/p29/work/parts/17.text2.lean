set_option maxRecDepth 20000 in
theorem cw_X6_44 : CwN RX6 "IndentReader" 44 yX9_columnBehind cX9_columnBehind 3 (some .int) 3 := ⟨nm_ 797 (by decide +kernel) rfl, wm 1 (by decide +kernel) rfl, wm 662 rfl rfl, by decide +kernel⟩
set_option maxRecDepth 20000 in
theorem st_X9_columnBehind : Cond.static yX9_columnBehind ∈ WALL := wm 661 (by decide +kernel) rfl
set_option maxRecDepth 20000 in
theorem cw_X6_40 : CwV RX6 40 yX6_columnFrom cX6_columnFrom 7 (some .int) 4 := ⟨wm 793 (by decide +kernel) rfl, wm 794 (by decide +kernel) rfl, wm 795 (by decide +kernel) rfl, wm 3 (by decide +kernel) rfl, wm 796 rfl rfl, by decide +kernel⟩
set_option maxRecDepth 20000 in
theorem cw_X6_33 : CwV RX6 33 yX6_lineAt cX6_lineAt 4 (some .int) 1 := ⟨wm 810 (by decide +kernel) rfl, wm 786 (by decide +kernel) rfl, wm 787 (by decide +kernel) rfl, wm 3 (by decide +kernel) rfl, wm 788 rfl rfl, by decide +kernel⟩
theorem dX9_columnBehind_0 : decode cX9_columnBehind 0 = .ok (.iload_n 1, 1) := by decide +kernel
theorem dX9_columnBehind_1 : decode cX9_columnBehind 1 = .ok (.bipush 9, 2) := by decide +kernel
theorem dX9_columnBehind_3 : decode cX9_columnBehind 3 = .ok (.if_icmp .ne 17, 3) := by decide +kernel
theorem dX9_columnBehind_20 : decode cX9_columnBehind 20 = .ok (.iload_n 0, 1) := by decide +kernel
theorem dX9_columnBehind_21 : decode cX9_columnBehind 21 = .ok (.iconst 1, 1) := by decide +kernel
theorem dX9_columnBehind_22 : decode cX9_columnBehind 22 = .ok (.iadd, 1) := by decide +kernel
theorem dX9_columnBehind_23 : decode cX9_columnBehind 23 = .ok (.ireturn, 1) := by decide +kernel
theorem dX9_columnBehind_6 : decode cX9_columnBehind 6 = .ok (.iload_n 2, 1) := by decide +kernel
theorem dX9_columnBehind_7 : decode cX9_columnBehind 7 = .ok (.ifCond .le 13, 3) := by decide +kernel
theorem dX9_columnBehind_10 : decode cX9_columnBehind 10 = .ok (.iload_n 0, 1) := by decide +kernel
theorem dX9_columnBehind_11 : decode cX9_columnBehind 11 = .ok (.iload_n 2, 1) := by decide +kernel
theorem dX9_columnBehind_12 : decode cX9_columnBehind 12 = .ok (.idiv, 1) := by decide +kernel
theorem dX9_columnBehind_13 : decode cX9_columnBehind 13 = .ok (.iconst 1, 1) := by decide +kernel
theorem dX9_columnBehind_14 : decode cX9_columnBehind 14 = .ok (.iadd, 1) := by decide +kernel
theorem dX9_columnBehind_15 : decode cX9_columnBehind 15 = .ok (.iload_n 2, 1) := by decide +kernel
theorem dX9_columnBehind_16 : decode cX9_columnBehind 16 = .ok (.imul, 1) := by decide +kernel
theorem dX9_columnBehind_17 : decode cX9_columnBehind 17 = .ok (.goto 6, 3) := by decide +kernel
theorem dX6_columnFrom_0 : decode cX6_columnFrom 0 = .ok (.iload_n 2, 1) := by decide +kernel
theorem dX6_columnFrom_1 : decode cX6_columnFrom 1 = .ok (.istore 5, 2) := by decide +kernel
theorem dX6_columnFrom_3 : decode cX6_columnFrom 3 = .ok (.iload_n 1, 1) := by decide +kernel
theorem dX6_columnFrom_4 : decode cX6_columnFrom 4 = .ok (.istore 6, 2) := by decide +kernel
theorem dX6_columnFrom_6 : decode cX6_columnFrom 6 = .ok (.iload 6, 2) := by decide +kernel
theorem dX6_columnFrom_8 : decode cX6_columnFrom 8 = .ok (.iload_n 3, 1) := by decide +kernel
theorem dX6_columnFrom_9 : decode cX6_columnFrom 9 = .ok (.if_icmp .ge 24, 3) := by decide +kernel
theorem dX6_columnFrom_33 : decode cX6_columnFrom 33 = .ok (.iload 5, 2) := by decide +kernel
theorem dX6_columnFrom_35 : decode cX6_columnFrom 35 = .ok (.ireturn, 1) := by decide +kernel
theorem dX6_columnFrom_12 : decode cX6_columnFrom 12 = .ok (.iload 5, 2) := by decide +kernel
theorem dX6_columnFrom_14 : decode cX6_columnFrom 14 = .ok (.aload_n 0, 1) := by decide +kernel
theorem dX6_columnFrom_15 : decode cX6_columnFrom 15 = .ok (.iload 6, 2) := by decide +kernel
theorem dX6_columnFrom_17 : decode cX6_columnFrom 17 = .ok (.invokevirtual 37, 3) := by decide +kernel
theorem dX6_columnFrom_20 : decode cX6_columnFrom 20 = .ok (.iload 4, 2) := by decide +kernel
theorem dX6_columnFrom_22 : decode cX6_columnFrom 22 = .ok (.invokestatic 44, 3) := by decide +kernel
theorem dX6_columnFrom_25 : decode cX6_columnFrom 25 = .ok (.istore 5, 2) := by decide +kernel
theorem dX6_columnFrom_27 : decode cX6_columnFrom 27 = .ok (.iinc 6 1, 3) := by decide +kernel
theorem dX6_columnFrom_30 : decode cX6_columnFrom 30 = .ok (.goto (-24), 3) := by decide +kernel
theorem dX6_columnAt_0 : decode cX6_columnAt 0 = .ok (.iconst 0, 1) := by decide +kernel
theorem dX6_columnAt_1 : decode cX6_columnAt 1 = .ok (.istore_n 3, 1) := by decide +kernel
theorem dX6_columnAt_2 : decode cX6_columnAt 2 = .ok (.iconst 0, 1) := by decide +kernel
theorem dX6_columnAt_3 : decode cX6_columnAt 3 = .ok (.istore 4, 2) := by decide +kernel
theorem dX6_columnAt_5 : decode cX6_columnAt 5 = .ok (.iload 4, 2) := by decide +kernel
theorem dX6_columnAt_7 : decode cX6_columnAt 7 = .ok (.iload_n 1, 1) := by decide +kernel
theorem dX6_columnAt_8 : decode cX6_columnAt 8 = .ok (.if_icmp .ge 25, 3) := by decide +kernel
theorem dX6_columnAt_33 : decode cX6_columnAt 33 = .ok (.aload_n 0, 1) := by decide +kernel
theorem dX6_columnAt_34 : decode cX6_columnAt 34 = .ok (.iload_n 3, 1) := by decide +kernel
theorem dX6_columnAt_35 : decode cX6_columnAt 35 = .ok (.iconst 0, 1) := by decide +kernel
theorem dX6_columnAt_36 : decode cX6_columnAt 36 = .ok (.iload_n 1, 1) := by decide +kernel
theorem dX6_columnAt_37 : decode cX6_columnAt 37 = .ok (.iload_n 2, 1) := by decide +kernel
theorem dX6_columnAt_38 : decode cX6_columnAt 38 = .ok (.invokevirtual 40, 3) := by decide +kernel
theorem dX6_columnAt_41 : decode cX6_columnAt 41 = .ok (.ireturn, 1) := by decide +kernel
theorem dX6_columnAt_11 : decode cX6_columnAt 11 = .ok (.aload_n 0, 1) := by decide +kernel
theorem dX6_columnAt_12 : decode cX6_columnAt 12 = .ok (.iload 4, 2) := by decide +kernel
theorem dX6_columnAt_14 : decode cX6_columnAt 14 = .ok (.invokevirtual 37, 3) := by decide +kernel
theorem dX6_columnAt_17 : decode cX6_columnAt 17 = .ok (.bipush 10, 2) := by decide +kernel
theorem dX6_columnAt_19 : decode cX6_columnAt 19 = .ok (.if_icmp .ne 8, 3) := by decide +kernel
theorem dX6_columnAt_27 : decode cX6_columnAt 27 = .ok (.iinc 4 1, 3) := by decide +kernel
theorem dX6_columnAt_30 : decode cX6_columnAt 30 = .ok (.goto (-25), 3) := by decide +kernel
theorem dX6_columnAt_22 : decode cX6_columnAt 22 = .ok (.iload 4, 2) := by decide +kernel
theorem dX6_columnAt_24 : decode cX6_columnAt 24 = .ok (.iconst 1, 1) := by decide +kernel
theorem dX6_columnAt_25 : decode cX6_columnAt 25 = .ok (.iadd, 1) := by decide +kernel
theorem dX6_columnAt_26 : decode cX6_columnAt 26 = .ok (.istore_n 3, 1) := by decide +kernel
theorem dX6_firstPlaceOf_0 : decode cX6_firstPlaceOf 0 = .ok (.iconst 0, 1) := by decide +kernel
theorem dX6_firstPlaceOf_1 : decode cX6_firstPlaceOf 1 = .ok (.istore_n 2, 1) := by decide +kernel
theorem dX6_firstPlaceOf_2 : decode cX6_firstPlaceOf 2 = .ok (.iload_n 2, 1) := by decide +kernel
theorem dX6_firstPlaceOf_3 : decode cX6_firstPlaceOf 3 = .ok (.aload_n 0, 1) := by decide +kernel
theorem dX6_firstPlaceOf_4 : decode cX6_firstPlaceOf 4 = .ok (.getfield 15, 3) := by decide +kernel
theorem dX6_firstPlaceOf_7 : decode cX6_firstPlaceOf 7 = .ok (.if_icmp .ge 20, 3) := by decide +kernel
theorem dX6_firstPlaceOf_27 : decode cX6_firstPlaceOf 27 = .ok (.bipush (-9), 2) := by decide +kernel
theorem dX6_firstPlaceOf_29 : decode cX6_firstPlaceOf 29 = .ok (.ireturn, 1) := by decide +kernel
theorem dX6_firstPlaceOf_10 : decode cX6_firstPlaceOf 10 = .ok (.aload_n 0, 1) := by decide +kernel
theorem dX6_firstPlaceOf_11 : decode cX6_firstPlaceOf 11 = .ok (.iload_n 2, 1) := by decide +kernel
theorem dX6_firstPlaceOf_12 : decode cX6_firstPlaceOf 12 = .ok (.invokevirtual 37, 3) := by decide +kernel
theorem dX6_firstPlaceOf_15 : decode cX6_firstPlaceOf 15 = .ok (.iload_n 1, 1) := by decide +kernel
theorem dX6_firstPlaceOf_16 : decode cX6_firstPlaceOf 16 = .ok (.if_icmp .ne 5, 3) := by decide +kernel
theorem dX6_firstPlaceOf_21 : decode cX6_firstPlaceOf 21 = .ok (.iinc 2 1, 3) := by decide +kernel
theorem dX6_firstPlaceOf_24 : decode cX6_firstPlaceOf 24 = .ok (.goto (-22), 3) := by decide +kernel
theorem dX6_firstPlaceOf_19 : decode cX6_firstPlaceOf 19 = .ok (.iload_n 2, 1) := by decide +kernel
theorem dX6_firstPlaceOf_20 : decode cX6_firstPlaceOf 20 = .ok (.ireturn, 1) := by decide +kernel
theorem dX6_lineCount_0 : decode cX6_lineCount 0 = .ok (.aload_n 0, 1) := by decide +kernel
theorem dX6_lineCount_1 : decode cX6_lineCount 1 = .ok (.getfield 15, 3) := by decide +kernel
theorem dX6_lineCount_4 : decode cX6_lineCount 4 = .ok (.ifCond .ne 7, 3) := by decide +kernel
theorem dX6_lineCount_11 : decode cX6_lineCount 11 = .ok (.iconst 1, 1) := by decide +kernel
theorem dX6_lineCount_12 : decode cX6_lineCount 12 = .ok (.aload_n 0, 1) := by decide +kernel
theorem dX6_lineCount_13 : decode cX6_lineCount 13 = .ok (.aload_n 0, 1) := by decide +kernel
theorem dX6_lineCount_14 : decode cX6_lineCount 14 = .ok (.getfield 15, 3) := by decide +kernel
theorem dX6_lineCount_17 : decode cX6_lineCount 17 = .ok (.iconst 1, 1) := by decide +kernel
theorem dX6_lineCount_18 : decode cX6_lineCount 18 = .ok (.isub, 1) := by decide +kernel
theorem dX6_lineCount_19 : decode cX6_lineCount 19 = .ok (.invokevirtual 33, 3) := by decide +kernel
theorem dX6_lineCount_22 : decode cX6_lineCount 22 = .ok (.iadd, 1) := by decide +kernel
theorem dX6_lineCount_23 : decode cX6_lineCount 23 = .ok (.ireturn, 1) := by decide +kernel
theorem dX6_lineCount_7 : decode cX6_lineCount 7 = .ok (.iconst 0, 1) := by decide +kernel
theorem dX6_lineCount_8 : decode cX6_lineCount 8 = .ok (.goto 15, 3) := by decide +kernel
theorem dX6_startOf_0 : decode cX6_startOf 0 = .ok (.iload_n 1, 1) := by decide +kernel
theorem dX6_startOf_1 : decode cX6_startOf 1 = .ok (.ifCond .ne 12, 3) := by decide +kernel
theorem dX6_startOf_13 : decode cX6_startOf 13 = .ok (.iconst 0, 1) := by decide +kernel
theorem dX6_startOf_14 : decode cX6_startOf 14 = .ok (.istore_n 2, 1) := by decide +kernel
theorem dX6_startOf_15 : decode cX6_startOf 15 = .ok (.iconst 0, 1) := by decide +kernel
theorem dX6_startOf_16 : decode cX6_startOf 16 = .ok (.istore_n 3, 1) := by decide +kernel
theorem dX6_startOf_4 : decode cX6_startOf 4 = .ok (.aload_n 0, 1) := by decide +kernel
theorem dX6_startOf_5 : decode cX6_startOf 5 = .ok (.getfield 15, 3) := by decide +kernel
theorem dX6_startOf_8 : decode cX6_startOf 8 = .ok (.ifCond .le 5, 3) := by decide +kernel
theorem dX6_startOf_11 : decode cX6_startOf 11 = .ok (.iconst 0, 1) := by decide +kernel
theorem dX6_startOf_12 : decode cX6_startOf 12 = .ok (.ireturn, 1) := by decide +kernel
theorem dX6_startOf_17 : decode cX6_startOf 17 = .ok (.iload_n 3, 1) := by decide +kernel
theorem dX6_startOf_18 : decode cX6_startOf 18 = .ok (.aload_n 0, 1) := by decide +kernel
theorem dX6_startOf_19 : decode cX6_startOf 19 = .ok (.getfield 15, 3) := by decide +kernel
theorem dX6_startOf_22 : decode cX6_startOf 22 = .ok (.iconst 1, 1) := by decide +kernel
theorem dX6_startOf_23 : decode cX6_startOf 23 = .ok (.isub, 1) := by decide +kernel
theorem dX6_startOf_24 : decode cX6_startOf 24 = .ok (.if_icmp .ge 32, 3) := by decide +kernel
theorem dX6_startOf_56 : decode cX6_startOf 56 = .ok (.bipush (-9), 2) := by decide +kernel
theorem dX6_startOf_58 : decode cX6_startOf 58 = .ok (.ireturn, 1) := by decide +kernel
theorem dX6_startOf_27 : decode cX6_startOf 27 = .ok (.aload_n 0, 1) := by decide +kernel
theorem dX6_startOf_28 : decode cX6_startOf 28 = .ok (.getfield 9, 3) := by decide +kernel
theorem dX6_startOf_31 : decode cX6_startOf 31 = .ok (.iload_n 3, 1) := by decide +kernel
theorem dX6_startOf_32 : decode cX6_startOf 32 = .ok (.baload, 1) := by decide +kernel
theorem dX6_startOf_33 : decode cX6_startOf 33 = .ok (.bipush 10, 2) := by decide +kernel
theorem dX6_startOf_35 : decode cX6_startOf 35 = .ok (.if_icmp .ne 15, 3) := by decide +kernel
theorem dX6_startOf_50 : decode cX6_startOf 50 = .ok (.iinc 3 1, 3) := by decide +kernel
theorem dX6_startOf_53 : decode cX6_startOf 53 = .ok (.goto (-36), 3) := by decide +kernel
theorem dX6_startOf_38 : decode cX6_startOf 38 = .ok (.iinc 2 1, 3) := by decide +kernel
theorem dX6_startOf_41 : decode cX6_startOf 41 = .ok (.iload_n 2, 1) := by decide +kernel
theorem dX6_startOf_42 : decode cX6_startOf 42 = .ok (.iload_n 1, 1) := by decide +kernel
theorem dX6_startOf_43 : decode cX6_startOf 43 = .ok (.if_icmp .ne 7, 3) := by decide +kernel
theorem dX6_startOf_46 : decode cX6_startOf 46 = .ok (.iload_n 3, 1) := by decide +kernel
theorem dX6_startOf_47 : decode cX6_startOf 47 = .ok (.iconst 1, 1) := by decide +kernel
theorem dX6_startOf_48 : decode cX6_startOf 48 = .ok (.iadd, 1) := by decide +kernel
theorem dX6_startOf_49 : decode cX6_startOf 49 = .ok (.ireturn, 1) := by decide +kernel
set_option maxHeartbeats 4000000 in
set_option maxRecDepth 100000 in
theorem g_X9_columnBehind (l : Launch) (D : va_G) (tA : Nat → ClassId) (b : Nat) (i F : Nat → Nat → Int32) (G : Nat → Nat → Int64) (x y z : Int32)  : xMI l yX9_columnBehind cX9_columnBehind 3 (some .int) 0 0 D tA b 0 78 i F G [.int x, .int y, .int z] (fun r u => u = (i, F, G) ∧ True) := by
  refine xstart RX9 rfl (by decide) (Nat.le_of_ble_eq_true rfl) ?_
  intro p e s m below meth c ls C0 hr hH hS hl
  have hl : lv_has ls 3 [(0, .int x), (1, .int y), (2, .int z)] := hl
  have rg_x := fb_rng x
  have rg_y := fb_rng y
  have rg_z := fb_rng z
  refine lv_iload_n (pc := 0) C0.1 C0.2.1 dX9_columnBehind_0 rfl (lv_at hl 1 rfl) ?_
  refine lv_bipush (pc := 1) (v := 9) C0.1 C0.2.1 dX9_columnBehind_1 (by decide) ?_
  refine lv_icmp_ne (pc := 3) (tgt := 20) C0.1 C0.2.1 dX9_columnBehind_3 (by decide) (fun c1 => ?_) (fun c1 => ?_)
  · have : Int32.toInt 9 = 9 := rfl
    have c1 : ¬ _ := fun q => c1 (Int32.toInt_inj.mp q)
    refine lv_iload_n (pc := 20) C0.1 C0.2.1 dX9_columnBehind_20 rfl (lv_at hl 0 rfl) ?_
    refine lv_iconst (pc := 21) (v := 1) C0.1 C0.2.1 dX9_columnBehind_21 (by decide) ?_
    refine lv_iadd (pc := 22) C0.1 C0.2.1 dX9_columnBehind_22 ?_
    exact xiret (pc := 23) C0 hr hH hS dX9_columnBehind_23 ⟨rfl, trivial⟩
  · have : Int32.toInt 9 = 9 := rfl
    have c1 := congrArg Int32.toInt c1
    refine lv_iload_n (pc := 6) C0.1 C0.2.1 dX9_columnBehind_6 rfl (lv_at hl 2 rfl) ?_
    refine lv_if_le (pc := 7) (tgt := 20) C0.1 C0.2.1 dX9_columnBehind_7 (by decide) (fun c2 => ?_) (fun c2 => ?_)
    · have : Int32.toInt 0 = 0 := rfl
      have c2 := Int32.le_iff_toInt_le.mp c2
      refine lv_iload_n (pc := 20) C0.1 C0.2.1 dX9_columnBehind_20 rfl (lv_at hl 0 rfl) ?_
      refine lv_iconst (pc := 21) (v := 1) C0.1 C0.2.1 dX9_columnBehind_21 (by decide) ?_
      refine lv_iadd (pc := 22) C0.1 C0.2.1 dX9_columnBehind_22 ?_
      exact xiret (pc := 23) C0 hr hH hS dX9_columnBehind_23 ⟨rfl, trivial⟩
    · have : Int32.toInt 0 = 0 := rfl
      have c2 : ¬ _ := fun q => c2 (Int32.le_iff_toInt_le.mpr q)
      refine lv_iload_n (pc := 10) C0.1 C0.2.1 dX9_columnBehind_10 rfl (lv_at hl 0 rfl) ?_
      refine lv_iload_n (pc := 11) C0.1 C0.2.1 dX9_columnBehind_11 rfl (lv_at hl 2 rfl) ?_
      refine lv_idiv (pc := 12) C0.1 C0.2.1 dX9_columnBehind_12 (fun q => by have := congrArg Int32.toInt q; omega) ?_
      refine lv_iconst (pc := 13) (v := 1) C0.1 C0.2.1 dX9_columnBehind_13 (by decide) ?_
      refine lv_iadd (pc := 14) C0.1 C0.2.1 dX9_columnBehind_14 ?_
      refine lv_iload_n (pc := 15) C0.1 C0.2.1 dX9_columnBehind_15 rfl (lv_at hl 2 rfl) ?_
      refine lv_imul (pc := 16) C0.1 C0.2.1 dX9_columnBehind_16 ?_
      refine lv_goto (pc := 17) (tgt := 23) C0.1 C0.2.1 dX9_columnBehind_17 (by decide) ?_
      exact xiret (pc := 23) C0 hr hH hS dX9_columnBehind_23 ⟨rfl, trivial⟩
set_option maxHeartbeats 4000000 in
set_option maxRecDepth 100000 in
theorem g_X6_columnFrom_4 (l : Launch) (D : va_G) (tA : Nat → ClassId) (b : Nat) (i F : Nat → Nat → Int32) (G : Nat → Nat → Int64) (x y z w : Int32) (hsz : 0 ≤ (i 4 1).toInt ∧ (i 4 1).toInt ≤ 600) : xMI l yX6_columnFrom cX6_columnFrom 7 (some .int) 1 22 D tA b 0 78 i F G [.ref (b + 4), .int x, .int y, .int z, .int w] (fun r u => u = (i, F, G) ∧ True) := by
  refine xstart RX6 rfl (by decide) (Nat.le_of_ble_eq_true rfl) ?_
  intro p e s m below meth c ls C0 hr hH hS hl
  have hl : lv_has ls 7 [(0, .ref (b + 4)), (1, .int x), (2, .int y), (3, .int z), (4, .int w)] := hl
  have rg_x := fb_rng x
  have rg_y := fb_rng y
  have rg_z := fb_rng z
  have rg_w := fb_rng w
  have LOOP : ∀ (d : Nat) (k q : Int32) (H : Heap) (locs : List Loc) (ls : Array Slot), (z.toInt - k.toInt ≤ d) → Hd D tA b 0 78 zz i F G H → va_S (xA b 0 78) s.heap H locs → lv_has ls 7 [(6, .int k), (5, .int q), (1, .int x), (2, .int y), (3, .int z), (4, .int w), (0, .ref (b + 4))] → W p l e (xR 1 22) s m ([.ref (b + 4), .int x, .int y, .int z, .int w] : List Value).toArray below meth c H locs 0 0 (MQ below (va_Qi (fun r u => u = (i, F, G) ∧ True) (xB D tA b 0 78 zz) (xA b 0 78)) ([.ref (b + 4), .int x, .int y, .int z, .int w] : List Value).toArray s 0 0 (xA b 0 78)) (F0 m 6 ls []) := by
    intro d
    induction d with
    | zero =>
      intro k q H locs ls h1 hH hS hl
      have rg_k := fb_rng k
      have rg_q := fb_rng q
      refine lv_iload (pc := 6) C0.1 C0.2.1 dX6_columnFrom_6 (lv_at hl 0 rfl) ?_
      refine lv_iload_n (pc := 8) C0.1 C0.2.1 dX6_columnFrom_8 rfl (lv_at hl 4 rfl) ?_
      refine lv_icmp_ge (pc := 9) (tgt := 33) C0.1 C0.2.1 dX6_columnFrom_9 (by decide) (fun _ => ?_) (fun c => absurd (Int32.le_iff_toInt_le.mpr (by omega)) c)
      refine lv_iload (pc := 33) C0.1 C0.2.1 dX6_columnFrom_33 (lv_at hl 1 rfl) ?_
      exact xiret (pc := 35) C0 hr hH hS dX6_columnFrom_35 ⟨rfl, trivial⟩
    | succ d ih =>
      intro k q H locs ls h1 hH hS hl
      have rg_k := fb_rng k
      have rg_q := fb_rng q
      refine lv_iload (pc := 6) C0.1 C0.2.1 dX6_columnFrom_6 (lv_at hl 0 rfl) ?_
      refine lv_iload_n (pc := 8) C0.1 C0.2.1 dX6_columnFrom_8 rfl (lv_at hl 4 rfl) ?_
      refine lv_icmp_ge (pc := 9) (tgt := 33) C0.1 C0.2.1 dX6_columnFrom_9 (by decide) (fun c101 => ?_) (fun c101 => ?_)
      · have c101 := Int32.le_iff_toInt_le.mp c101
        refine lv_iload (pc := 33) C0.1 C0.2.1 dX6_columnFrom_33 (lv_at hl 1 rfl) ?_
        exact xiret (pc := 35) C0 hr hH hS dX6_columnFrom_35 ⟨rfl, trivial⟩
      · have c101 : ¬ _ := fun q => c101 (Int32.le_iff_toInt_le.mpr q)
        refine lv_iload (pc := 12) C0.1 C0.2.1 dX6_columnFrom_12 (lv_at hl 1 rfl) ?_
        refine lv_aload_n (pc := 14) C0.1 C0.2.1 dX6_columnFrom_14 rfl (lv_at hl 6 rfl) ?_
        refine lv_iload (pc := 15) C0.1 C0.2.1 dX6_columnFrom_15 (lv_at hl 0 rfl) ?_
        refine xcVI (pc := 17) 4 [.int k] (g_X6_at_4 l D tA b i F G k hsz) C0 hH hS clX6 rfl ⟨⟨Nat.le_of_ble_eq_true rfl, Nat.le_of_ble_eq_true rfl⟩, rfl, rfl⟩ cw_X6_37 rfl ⟨Nat.le_of_ble_eq_true rfl, Nat.le_of_ble_eq_true rfl⟩ hl.1 rfl (Nat.le_of_ble_eq_true rfl) dX6_columnFrom_17 ⟨Nat.le_of_ble_eq_true rfl, Nat.le_of_ble_eq_true rfl⟩ (fun r102 ir102 Fr102 Gr102 _ locs hp hH hS => ?_)
        obtain ⟨hu, hpr102⟩ := hp
        cases hu
        refine lv_iload (pc := 20) C0.1 C0.2.1 dX6_columnFrom_20 (lv_at hl 5 rfl) ?_
        refine xcNI (pc := 22) [.int q, .int r102, .int w] (g_X9_columnBehind l D tA b i F G q r102 w ) C0 hH hS cw_X6_44 st_X9_columnBehind rfl ⟨Nat.le_of_ble_eq_true rfl, Nat.le_of_ble_eq_true rfl⟩ hl.1 rfl (Nat.le_of_ble_eq_true rfl) dX6_columnFrom_22 ⟨Nat.le_of_ble_eq_true rfl, Nat.le_of_ble_eq_true rfl⟩ (fun r103 ir103 Fr103 Gr103 _ locs hp hH hS => ?_)
        obtain ⟨hu, hpr103⟩ := hp
        cases hu
        refine lv_istore (pc := 25) (lv' := [(5, .int r103), (6, .int k), (1, .int x), (2, .int y), (3, .int z), (4, .int w), (0, .ref (b + 4))]) C0.1 C0.2.1 dX6_columnFrom_25 hl (by decide) rfl (fun ls hl => ?_)
        obtain ⟨x104, ex104⟩ : ∃ y_ : Int32, y_ = k + 1 := ⟨_, rfl⟩
        have : Int32.toInt 1 = 1 := rfl
        have hx104 : Int32.toInt x104 = Int32.toInt k + Int32.toInt 1 := by rw [ex104]; exact fb_addI (by omega) (by omega)
        refine lv_iinc (pc := 27) (v := x104) (lv' := [(6, .int x104), (5, .int r103), (1, .int x), (2, .int y), (3, .int z), (4, .int w), (0, .ref (b + 4))]) C0.1 C0.2.1 dX6_columnFrom_27 hl (k := 1) rfl (by rw [ex104]; rfl) (by decide) rfl (fun ls hl => ?_)
        refine lv_goto (pc := 30) (tgt := 6) C0.1 C0.2.1 dX6_columnFrom_30 (by decide) ?_
        exact ih x104 r103 _ _ _ (by omega) hH hS (lv_sub hl [0, 1, 2, 3, 4, 5, 6] rfl)
  refine lv_iload_n (pc := 0) C0.1 C0.2.1 dX6_columnFrom_0 rfl (lv_at hl 2 rfl) ?_
  refine lv_istore (pc := 1) (lv' := [(5, .int y), (0, .ref (b + 4)), (1, .int x), (2, .int y), (3, .int z), (4, .int w)]) C0.1 C0.2.1 dX6_columnFrom_1 hl (by decide) rfl (fun ls hl => ?_)
  refine lv_iload_n (pc := 3) C0.1 C0.2.1 dX6_columnFrom_3 rfl (lv_at hl 2 rfl) ?_
  refine lv_istore (pc := 4) (lv' := [(6, .int x), (5, .int y), (0, .ref (b + 4)), (1, .int x), (2, .int y), (3, .int z), (4, .int w)]) C0.1 C0.2.1 dX6_columnFrom_4 hl (by decide) rfl (fun ls hl => ?_)
  exact LOOP (z.toInt - x.toInt).toNat x y _ _ _ (by omega) hH hS (lv_sub hl [0, 1, 3, 4, 5, 6, 2] rfl)
set_option maxHeartbeats 4000000 in
set_option maxRecDepth 100000 in
theorem g_X6_columnAt_4 (l : Launch) (D : va_G) (tA : Nat → ClassId) (b : Nat) (i F : Nat → Nat → Int32) (G : Nat → Nat → Int64) (x y : Int32) (hsz : 0 ≤ (i 4 1).toInt ∧ (i 4 1).toInt ≤ 600) : xMI l yX6_columnAt cX6_columnAt 5 (some .int) 2 48 D tA b 0 78 i F G [.ref (b + 4), .int x, .int y] (fun r u => u = (i, F, G) ∧ True) := by
  refine xstart RX6 rfl (by decide) (Nat.le_of_ble_eq_true rfl) ?_
  intro p e s m below meth c ls C0 hr hH hS hl
  have hl : lv_has ls 5 [(0, .ref (b + 4)), (1, .int x), (2, .int y)] := hl
  have rg_x := fb_rng x
  have rg_y := fb_rng y
  have LOOP : ∀ (d : Nat) (k q : Int32) (H : Heap) (locs : List Loc) (ls : Array Slot), (0 ≤ k.toInt) → (x.toInt - k.toInt ≤ d) → Hd D tA b 0 78 zz i F G H → va_S (xA b 0 78) s.heap H locs → lv_has ls 5 [(4, .int k), (3, .int q), (1, .int x), (2, .int y), (0, .ref (b + 4))] → W p l e (xR 2 48) s m ([.ref (b + 4), .int x, .int y] : List Value).toArray below meth c H locs 0 0 (MQ below (va_Qi (fun r u => u = (i, F, G) ∧ True) (xB D tA b 0 78 zz) (xA b 0 78)) ([.ref (b + 4), .int x, .int y] : List Value).toArray s 0 0 (xA b 0 78)) (F0 m 5 ls []) := by
    intro d
    induction d with
    | zero =>
      intro k q H locs ls h1 h2 hH hS hl
      have rg_k := fb_rng k
      have rg_q := fb_rng q
      refine lv_iload (pc := 5) C0.1 C0.2.1 dX6_columnAt_5 (lv_at hl 0 rfl) ?_
      refine lv_iload_n (pc := 7) C0.1 C0.2.1 dX6_columnAt_7 rfl (lv_at hl 2 rfl) ?_
      refine lv_icmp_ge (pc := 8) (tgt := 33) C0.1 C0.2.1 dX6_columnAt_8 (by decide) (fun _ => ?_) (fun c => absurd (Int32.le_iff_toInt_le.mpr (by omega)) c)
      refine lv_aload_n (pc := 33) C0.1 C0.2.1 dX6_columnAt_33 rfl (lv_at hl 4 rfl) ?_
      refine lv_iload_n (pc := 34) C0.1 C0.2.1 dX6_columnAt_34 rfl (lv_at hl 1 rfl) ?_
      refine lv_iconst (pc := 35) (v := 0) C0.1 C0.2.1 dX6_columnAt_35 (by decide) ?_
      refine lv_iload_n (pc := 36) C0.1 C0.2.1 dX6_columnAt_36 rfl (lv_at hl 2 rfl) ?_
      refine lv_iload_n (pc := 37) C0.1 C0.2.1 dX6_columnAt_37 rfl (lv_at hl 3 rfl) ?_
      refine xcVI (pc := 38) 4 [.int q, .int 0, .int x, .int y] (g_X6_columnFrom_4 l D tA b i F G q 0 x y hsz) C0 hH hS clX6 rfl ⟨⟨Nat.le_of_ble_eq_true rfl, Nat.le_of_ble_eq_true rfl⟩, rfl, rfl⟩ cw_X6_40 rfl ⟨Nat.le_of_ble_eq_true rfl, Nat.le_of_ble_eq_true rfl⟩ hl.1 rfl (Nat.le_of_ble_eq_true rfl) dX6_columnAt_38 ⟨Nat.le_of_ble_eq_true rfl, Nat.le_of_ble_eq_true rfl⟩ (fun r101 ir101 Fr101 Gr101 _ locs hp hH hS => ?_)
      obtain ⟨hu, hpr101⟩ := hp
      cases hu
      exact xiret (pc := 41) C0 hr hH hS dX6_columnAt_41 ⟨rfl, trivial⟩
    | succ d ih =>
      intro k q H locs ls h1 h2 hH hS hl
      have rg_k := fb_rng k
      have rg_q := fb_rng q
      refine lv_iload (pc := 5) C0.1 C0.2.1 dX6_columnAt_5 (lv_at hl 0 rfl) ?_
      refine lv_iload_n (pc := 7) C0.1 C0.2.1 dX6_columnAt_7 rfl (lv_at hl 2 rfl) ?_
      refine lv_icmp_ge (pc := 8) (tgt := 33) C0.1 C0.2.1 dX6_columnAt_8 (by decide) (fun c101 => ?_) (fun c101 => ?_)
      · have c101 := Int32.le_iff_toInt_le.mp c101
        refine lv_aload_n (pc := 33) C0.1 C0.2.1 dX6_columnAt_33 rfl (lv_at hl 4 rfl) ?_
        refine lv_iload_n (pc := 34) C0.1 C0.2.1 dX6_columnAt_34 rfl (lv_at hl 1 rfl) ?_
        refine lv_iconst (pc := 35) (v := 0) C0.1 C0.2.1 dX6_columnAt_35 (by decide) ?_
        refine lv_iload_n (pc := 36) C0.1 C0.2.1 dX6_columnAt_36 rfl (lv_at hl 2 rfl) ?_
        refine lv_iload_n (pc := 37) C0.1 C0.2.1 dX6_columnAt_37 rfl (lv_at hl 3 rfl) ?_
        refine xcVI (pc := 38) 4 [.int q, .int 0, .int x, .int y] (g_X6_columnFrom_4 l D tA b i F G q 0 x y hsz) C0 hH hS clX6 rfl ⟨⟨Nat.le_of_ble_eq_true rfl, Nat.le_of_ble_eq_true rfl⟩, rfl, rfl⟩ cw_X6_40 rfl ⟨Nat.le_of_ble_eq_true rfl, Nat.le_of_ble_eq_true rfl⟩ hl.1 rfl (Nat.le_of_ble_eq_true rfl) dX6_columnAt_38 ⟨Nat.le_of_ble_eq_true rfl, Nat.le_of_ble_eq_true rfl⟩ (fun r102 ir102 Fr102 Gr102 _ locs hp hH hS => ?_)
        obtain ⟨hu, hpr102⟩ := hp
        cases hu
        exact xiret (pc := 41) C0 hr hH hS dX6_columnAt_41 ⟨rfl, trivial⟩
      · have c101 : ¬ _ := fun q => c101 (Int32.le_iff_toInt_le.mpr q)
        refine lv_aload_n (pc := 11) C0.1 C0.2.1 dX6_columnAt_11 rfl (lv_at hl 4 rfl) ?_
        refine lv_iload (pc := 12) C0.1 C0.2.1 dX6_columnAt_12 (lv_at hl 0 rfl) ?_
        refine xcVI (pc := 14) 4 [.int k] (g_X6_at_4 l D tA b i F G k hsz) C0 hH hS clX6 rfl ⟨⟨Nat.le_of_ble_eq_true rfl, Nat.le_of_ble_eq_true rfl⟩, rfl, rfl⟩ cw_X6_37 rfl ⟨Nat.le_of_ble_eq_true rfl, Nat.le_of_ble_eq_true rfl⟩ hl.1 rfl (Nat.le_of_ble_eq_true rfl) dX6_columnAt_14 ⟨Nat.le_of_ble_eq_true rfl, Nat.le_of_ble_eq_true rfl⟩ (fun r103 ir103 Fr103 Gr103 _ locs hp hH hS => ?_)
        obtain ⟨hu, hpr103⟩ := hp
        cases hu
        refine lv_bipush (pc := 17) (v := 10) C0.1 C0.2.1 dX6_columnAt_17 (by decide) ?_
        refine lv_icmp_ne (pc := 19) (tgt := 27) C0.1 C0.2.1 dX6_columnAt_19 (by decide) (fun c104 => ?_) (fun c104 => ?_)
        · have : Int32.toInt 10 = 10 := rfl
          have c104 : ¬ _ := fun q => c104 (Int32.toInt_inj.mp q)
          obtain ⟨x105, ex105⟩ : ∃ y_ : Int32, y_ = k + 1 := ⟨_, rfl⟩
          have : Int32.toInt 1 = 1 := rfl
          have hx105 : Int32.toInt x105 = Int32.toInt k + Int32.toInt 1 := by rw [ex105]; exact fb_addI (by omega) (by omega)
          refine lv_iinc (pc := 27) (v := x105) (lv' := [(4, .int x105), (3, .int q), (1, .int x), (2, .int y), (0, .ref (b + 4))]) C0.1 C0.2.1 dX6_columnAt_27 hl (k := 0) rfl (by rw [ex105]; rfl) (by decide) rfl (fun ls hl => ?_)
          refine lv_goto (pc := 30) (tgt := 5) C0.1 C0.2.1 dX6_columnAt_30 (by decide) ?_
          exact ih x105 q _ _ _ (by omega) (by omega) hH hS (lv_sub hl [0, 1, 2, 3, 4] rfl)
        · have : Int32.toInt 10 = 10 := rfl
          have c104 := congrArg Int32.toInt c104
          refine lv_iload (pc := 22) C0.1 C0.2.1 dX6_columnAt_22 (lv_at hl 0 rfl) ?_
          refine lv_iconst (pc := 24) (v := 1) C0.1 C0.2.1 dX6_columnAt_24 (by decide) ?_
          refine lv_iadd (pc := 25) C0.1 C0.2.1 dX6_columnAt_25 ?_
          refine lv_topi (fun x106 ex106 => ?_)
          refine lv_istore_n (pc := 26) (lv' := [(3, .int x106), (4, .int k), (1, .int x), (2, .int y), (0, .ref (b + 4))]) C0.1 C0.2.1 dX6_columnAt_26 rfl hl (by decide) rfl (fun ls hl => ?_)
          obtain ⟨x107, ex107⟩ : ∃ y_ : Int32, y_ = k + 1 := ⟨_, rfl⟩
          have : Int32.toInt 1 = 1 := rfl
          have hx107 : Int32.toInt x107 = Int32.toInt k + Int32.toInt 1 := by rw [ex107]; exact fb_addI (by omega) (by omega)
          refine lv_iinc (pc := 27) (v := x107) (lv' := [(4, .int x107), (3, .int x106), (1, .int x), (2, .int y), (0, .ref (b + 4))]) C0.1 C0.2.1 dX6_columnAt_27 hl (k := 1) rfl (by rw [ex107]; rfl) (by decide) rfl (fun ls hl => ?_)
          refine lv_goto (pc := 30) (tgt := 5) C0.1 C0.2.1 dX6_columnAt_30 (by decide) ?_
          exact ih x107 x106 _ _ _ (by omega) (by omega) hH hS (lv_sub hl [0, 1, 2, 3, 4] rfl)
  refine lv_iconst (pc := 0) (v := 0) C0.1 C0.2.1 dX6_columnAt_0 (by decide) ?_
  refine lv_istore_n (pc := 1) (lv' := [(3, .int 0), (0, .ref (b + 4)), (1, .int x), (2, .int y)]) C0.1 C0.2.1 dX6_columnAt_1 rfl hl (by decide) rfl (fun ls hl => ?_)
  refine lv_iconst (pc := 2) (v := 0) C0.1 C0.2.1 dX6_columnAt_2 (by decide) ?_
  refine lv_istore (pc := 3) (lv' := [(4, .int 0), (3, .int 0), (0, .ref (b + 4)), (1, .int x), (2, .int y)]) C0.1 C0.2.1 dX6_columnAt_3 hl (by decide) rfl (fun ls hl => ?_)
  exact LOOP (x.toInt).toNat 0 0 _ _ _ (by have : Int32.toInt 0 = 0 := rfl; omega) (by have : Int32.toInt 0 = 0 := rfl; omega) hH hS (lv_sub hl [0, 1, 3, 4, 2] rfl)
set_option maxHeartbeats 4000000 in
set_option maxRecDepth 100000 in
theorem g_X6_firstPlaceOf_4 (l : Launch) (D : va_G) (tA : Nat → ClassId) (b : Nat) (i F : Nat → Nat → Int32) (G : Nat → Nat → Int64) (x : Int32) (hsz : 0 ≤ (i 4 1).toInt ∧ (i 4 1).toInt ≤ 600) : xMI l yX6_firstPlaceOf cX6_firstPlaceOf 3 (some .int) 1 21 D tA b 0 78 i F G [.ref (b + 4), .int x] (fun r u => u = (i, F, G) ∧ True) := by
  refine xstart RX6 rfl (by decide) (Nat.le_of_ble_eq_true rfl) ?_
  intro p e s m below meth c ls C0 hr hH hS hl
  have hl : lv_has ls 3 [(0, .ref (b + 4)), (1, .int x)] := hl
  have rg_x := fb_rng x
  have LOOP : ∀ (d : Nat) (k : Int32) (H : Heap) (locs : List Loc) (ls : Array Slot), (0 ≤ k.toInt) → ((i 4 1).toInt - k.toInt ≤ d) → Hd D tA b 0 78 zz i F G H → va_S (xA b 0 78) s.heap H locs → lv_has ls 3 [(2, .int k), (1, .int x), (0, .ref (b + 4))] → W p l e (xR 1 21) s m ([.ref (b + 4), .int x] : List Value).toArray below meth c H locs 0 0 (MQ below (va_Qi (fun r u => u = (i, F, G) ∧ True) (xB D tA b 0 78 zz) (xA b 0 78)) ([.ref (b + 4), .int x] : List Value).toArray s 0 0 (xA b 0 78)) (F0 m 2 ls []) := by
    intro d
    induction d with
    | zero =>
      intro k H locs ls h1 h2 hH hS hl
      have rg_k := fb_rng k
      refine lv_iload_n (pc := 2) C0.1 C0.2.1 dX6_firstPlaceOf_2 rfl (lv_at hl 0 rfl) ?_
      refine lv_aload_n (pc := 3) C0.1 C0.2.1 dX6_firstPlaceOf_3 rfl (lv_at hl 2 rfl) ?_
      refine xget (pc := 4) C0 hH 4 1 clX6 ⟨Nat.le_of_ble_eq_true rfl, Nat.le_of_ble_eq_true rfl⟩ ⟨rfl, rfl⟩ (Nat.le_of_ble_eq_true rfl) fl_X6_15 (v := .int (i 4 1)) rfl dX6_firstPlaceOf_4 ?_
      refine lv_icmp_ge (pc := 7) (tgt := 27) C0.1 C0.2.1 dX6_firstPlaceOf_7 (by decide) (fun _ => ?_) (fun c => absurd (Int32.le_iff_toInt_le.mpr (by omega)) c)
      refine lv_bipush (pc := 27) (v := (-9)) C0.1 C0.2.1 dX6_firstPlaceOf_27 (by decide) ?_
      exact xiret (pc := 29) C0 hr hH hS dX6_firstPlaceOf_29 ⟨rfl, trivial⟩
    | succ d ih =>
      intro k H locs ls h1 h2 hH hS hl
      have rg_k := fb_rng k
      refine lv_iload_n (pc := 2) C0.1 C0.2.1 dX6_firstPlaceOf_2 rfl (lv_at hl 0 rfl) ?_
      refine lv_aload_n (pc := 3) C0.1 C0.2.1 dX6_firstPlaceOf_3 rfl (lv_at hl 2 rfl) ?_
      refine xget (pc := 4) C0 hH 4 1 clX6 ⟨Nat.le_of_ble_eq_true rfl, Nat.le_of_ble_eq_true rfl⟩ ⟨rfl, rfl⟩ (Nat.le_of_ble_eq_true rfl) fl_X6_15 (v := .int (i 4 1)) rfl dX6_firstPlaceOf_4 ?_
      refine lv_icmp_ge (pc := 7) (tgt := 27) C0.1 C0.2.1 dX6_firstPlaceOf_7 (by decide) (fun c101 => ?_) (fun c101 => ?_)
      · have c101 := Int32.le_iff_toInt_le.mp c101
        refine lv_bipush (pc := 27) (v := (-9)) C0.1 C0.2.1 dX6_firstPlaceOf_27 (by decide) ?_
        exact xiret (pc := 29) C0 hr hH hS dX6_firstPlaceOf_29 ⟨rfl, trivial⟩
      · have c101 : ¬ _ := fun q => c101 (Int32.le_iff_toInt_le.mpr q)
        refine lv_aload_n (pc := 10) C0.1 C0.2.1 dX6_firstPlaceOf_10 rfl (lv_at hl 2 rfl) ?_
        refine lv_iload_n (pc := 11) C0.1 C0.2.1 dX6_firstPlaceOf_11 rfl (lv_at hl 0 rfl) ?_
        refine xcVI (pc := 12) 4 [.int k] (g_X6_at_4 l D tA b i F G k hsz) C0 hH hS clX6 rfl ⟨⟨Nat.le_of_ble_eq_true rfl, Nat.le_of_ble_eq_true rfl⟩, rfl, rfl⟩ cw_X6_37 rfl ⟨Nat.le_of_ble_eq_true rfl, Nat.le_of_ble_eq_true rfl⟩ hl.1 rfl (Nat.le_of_ble_eq_true rfl) dX6_firstPlaceOf_12 ⟨Nat.le_of_ble_eq_true rfl, Nat.le_of_ble_eq_true rfl⟩ (fun r102 ir102 Fr102 Gr102 _ locs hp hH hS => ?_)
        obtain ⟨hu, hpr102⟩ := hp
        cases hu
        refine lv_iload_n (pc := 15) C0.1 C0.2.1 dX6_firstPlaceOf_15 rfl (lv_at hl 1 rfl) ?_
        refine lv_icmp_ne (pc := 16) (tgt := 21) C0.1 C0.2.1 dX6_firstPlaceOf_16 (by decide) (fun c103 => ?_) (fun c103 => ?_)
        · have c103 : ¬ _ := fun q => c103 (Int32.toInt_inj.mp q)
          obtain ⟨x104, ex104⟩ : ∃ y_ : Int32, y_ = k + 1 := ⟨_, rfl⟩
          have : Int32.toInt 1 = 1 := rfl
          have hx104 : Int32.toInt x104 = Int32.toInt k + Int32.toInt 1 := by rw [ex104]; exact fb_addI (by omega) (by omega)
          refine lv_iinc (pc := 21) (v := x104) (lv' := [(2, .int x104), (1, .int x), (0, .ref (b + 4))]) C0.1 C0.2.1 dX6_firstPlaceOf_21 hl (k := 0) rfl (by rw [ex104]; rfl) (by decide) rfl (fun ls hl => ?_)
          refine lv_goto (pc := 24) (tgt := 2) C0.1 C0.2.1 dX6_firstPlaceOf_24 (by decide) ?_
          exact ih x104 _ _ _ (by omega) (by omega) hH hS (lv_sub hl [0, 1, 2] rfl)
        · have c103 := congrArg Int32.toInt c103
          refine lv_iload_n (pc := 19) C0.1 C0.2.1 dX6_firstPlaceOf_19 rfl (lv_at hl 0 rfl) ?_
          exact xiret (pc := 20) C0 hr hH hS dX6_firstPlaceOf_20 ⟨rfl, trivial⟩
  refine lv_iconst (pc := 0) (v := 0) C0.1 C0.2.1 dX6_firstPlaceOf_0 (by decide) ?_
  refine lv_istore_n (pc := 1) (lv' := [(2, .int 0), (0, .ref (b + 4)), (1, .int x)]) C0.1 C0.2.1 dX6_firstPlaceOf_1 rfl hl (by decide) rfl (fun ls hl => ?_)
  exact LOOP 600 0 _ _ _ (by have : Int32.toInt 0 = 0 := rfl; omega) (by have : Int32.toInt 0 = 0 := rfl; omega) hH hS (lv_sub hl [0, 2, 1] rfl)
set_option maxHeartbeats 4000000 in
set_option maxRecDepth 100000 in
theorem g_X6_lineCount_4 (l : Launch) (D : va_G) (tA : Nat → ClassId) (b : Nat) (i F : Nat → Nat → Int32) (G : Nat → Nat → Int64)  (hsz : 0 ≤ (i 4 1).toInt ∧ (i 4 1).toInt ≤ 600) : xMI l yX6_lineCount cX6_lineCount 1 (some .int) 2 44 D tA b 0 78 i F G [.ref (b + 4)] (fun r u => u = (i, F, G) ∧ True) := by
  refine xstart RX6 rfl (by decide) (Nat.le_of_ble_eq_true rfl) ?_
  intro p e s m below meth c ls C0 hr hH hS hl
  have hl : lv_has ls 1 [(0, .ref (b + 4))] := hl
  refine lv_aload_n (pc := 0) C0.1 C0.2.1 dX6_lineCount_0 rfl (lv_at hl 0 rfl) ?_
  refine xget (pc := 1) C0 hH 4 1 clX6 ⟨Nat.le_of_ble_eq_true rfl, Nat.le_of_ble_eq_true rfl⟩ ⟨rfl, rfl⟩ (Nat.le_of_ble_eq_true rfl) fl_X6_15 (v := .int (i 4 1)) rfl dX6_lineCount_1 ?_
  refine lv_if_ne (pc := 4) (tgt := 11) C0.1 C0.2.1 dX6_lineCount_4 (by decide) (fun c1 => ?_) (fun c1 => ?_)
  · have : Int32.toInt 0 = 0 := rfl
    have c1 : ¬ _ := fun q => c1 (Int32.toInt_inj.mp q)
    refine lv_iconst (pc := 11) (v := 1) C0.1 C0.2.1 dX6_lineCount_11 (by decide) ?_
    refine lv_aload_n (pc := 12) C0.1 C0.2.1 dX6_lineCount_12 rfl (lv_at hl 0 rfl) ?_
    refine lv_aload_n (pc := 13) C0.1 C0.2.1 dX6_lineCount_13 rfl (lv_at hl 0 rfl) ?_
    refine xget (pc := 14) C0 hH 4 1 clX6 ⟨Nat.le_of_ble_eq_true rfl, Nat.le_of_ble_eq_true rfl⟩ ⟨rfl, rfl⟩ (Nat.le_of_ble_eq_true rfl) fl_X6_15 (v := .int (i 4 1)) rfl dX6_lineCount_14 ?_
    refine lv_iconst (pc := 17) (v := 1) C0.1 C0.2.1 dX6_lineCount_17 (by decide) ?_
    refine lv_isub (pc := 18) C0.1 C0.2.1 dX6_lineCount_18 ?_
    refine xcVI (pc := 19) 4 [.int ((i 4 1) - 1)] (g_X6_lineAt_4 l D tA b i F G ((i 4 1) - 1) hsz) C0 hH hS clX6 rfl ⟨⟨Nat.le_of_ble_eq_true rfl, Nat.le_of_ble_eq_true rfl⟩, rfl, rfl⟩ cw_X6_33 rfl ⟨Nat.le_of_ble_eq_true rfl, Nat.le_of_ble_eq_true rfl⟩ hl.1 rfl (Nat.le_of_ble_eq_true rfl) dX6_lineCount_19 ⟨Nat.le_of_ble_eq_true rfl, Nat.le_of_ble_eq_true rfl⟩ (fun r2 ir2 Fr2 Gr2 _ locs hp hH hS => ?_)
    obtain ⟨hu, hpr2⟩ := hp
    cases hu
    refine lv_iadd (pc := 22) C0.1 C0.2.1 dX6_lineCount_22 ?_
    exact xiret (pc := 23) C0 hr hH hS dX6_lineCount_23 ⟨rfl, trivial⟩
  · have : Int32.toInt 0 = 0 := rfl
    have c1 := congrArg Int32.toInt c1
    refine lv_iconst (pc := 7) (v := 0) C0.1 C0.2.1 dX6_lineCount_7 (by decide) ?_
    refine lv_goto (pc := 8) (tgt := 23) C0.1 C0.2.1 dX6_lineCount_8 (by decide) ?_
    exact xiret (pc := 23) C0 hr hH hS dX6_lineCount_23 ⟨rfl, trivial⟩
set_option maxHeartbeats 4000000 in
set_option maxRecDepth 100000 in
theorem g_X6_startOf_4 (l : Launch) (D : va_G) (tA : Nat → ClassId) (b : Nat) (i F : Nat → Nat → Int32) (G : Nat → Nat → Int64) (x : Int32) (hsz : 0 ≤ (i 4 1).toInt ∧ (i 4 1).toInt ≤ 600) : xMI l yX6_startOf cX6_startOf 4 (some .int) 0 0 D tA b 0 78 i F G [.ref (b + 4), .int x] (fun r u => u = (i, F, G) ∧ (r.toInt = -9 ∨ (0 ≤ r.toInt ∧ r.toInt < (i 4 1).toInt)) ∧ r = so_ (F 5) (i 4 1) x) := by
  refine xstart RX6 rfl (by decide) (Nat.le_of_ble_eq_true rfl) ?_
  intro p e s m below meth c ls C0 hr hH hS hl
  have hl : lv_has ls 4 [(0, .ref (b + 4)), (1, .int x)] := hl
  have rg_x := fb_rng x
  have LOOP : ∀ (d : Nat) (k q : Int32) (H : Heap) (locs : List Loc) (ls : Array Slot), (0 ≤ k.toInt) → ((i 4 1).toInt - k.toInt ≤ d) → (so_ (F 5) (i 4 1) x = soR (F 5) (i 4 1) x d k q) → Hd D tA b 0 78 zz i F G H → va_S (xA b 0 78) s.heap H locs → lv_has ls 4 [(3, .int k), (2, .int q), (1, .int x), (0, .ref (b + 4))] → W p l e (xR 0 0) s m ([.ref (b + 4), .int x] : List Value).toArray below meth c H locs 0 0 (MQ below (va_Qi (fun r u => u = (i, F, G) ∧ (r.toInt = -9 ∨ (0 ≤ r.toInt ∧ r.toInt < (i 4 1).toInt)) ∧ r = so_ (F 5) (i 4 1) x) (xB D tA b 0 78 zz) (xA b 0 78)) ([.ref (b + 4), .int x] : List Value).toArray s 0 0 (xA b 0 78)) (F0 m 17 ls []) := by
    intro d
    induction d with
    | zero =>
      intro k q H locs ls h1 h2 h3 hH hS hl
      have rg_k := fb_rng k
      have rg_q := fb_rng q
      refine lv_iload_n (pc := 17) C0.1 C0.2.1 dX6_startOf_17 rfl (lv_at hl 0 rfl) ?_
      refine lv_aload_n (pc := 18) C0.1 C0.2.1 dX6_startOf_18 rfl (lv_at hl 3 rfl) ?_
      refine xget (pc := 19) C0 hH 4 1 clX6 ⟨Nat.le_of_ble_eq_true rfl, Nat.le_of_ble_eq_true rfl⟩ ⟨rfl, rfl⟩ (Nat.le_of_ble_eq_true rfl) fl_X6_15 (v := .int (i 4 1)) rfl dX6_startOf_19 ?_
      refine lv_iconst (pc := 22) (v := 1) C0.1 C0.2.1 dX6_startOf_22 (by decide) ?_
      have : Int32.toInt 1 = 1 := rfl
      refine lv_isub (pc := 23) C0.1 C0.2.1 dX6_startOf_23 ?_
      refine lv_topi (fun x101 ex101 => ?_)
      have hx101 : Int32.toInt x101 = Int32.toInt (i 4 1) - Int32.toInt 1 := by rw [ex101]; exact fb_subI (by omega) (by omega)
      refine lv_icmp_ge (pc := 24) (tgt := 56) C0.1 C0.2.1 dX6_startOf_24 (by decide) (fun _ => ?_) (fun c => absurd (Int32.le_iff_toInt_le.mpr (by omega)) c)
      refine lv_bipush (pc := 56) (v := (-9)) C0.1 C0.2.1 dX6_startOf_56 (by decide) ?_
      exact xiret (pc := 58) C0 hr hH hS dX6_startOf_58 ⟨rfl, by first | exact Or.inl rfl | exact Or.inr ⟨by have : Int32.toInt 0 = 0 := rfl; omega, by have : Int32.toInt 0 = 0 := rfl; omega⟩, by rw [h3]; rfl⟩
    | succ d ih =>
      intro k q H locs ls h1 h2 h3 hH hS hl
      have rg_k := fb_rng k
      have rg_q := fb_rng q
      refine lv_iload_n (pc := 17) C0.1 C0.2.1 dX6_startOf_17 rfl (lv_at hl 0 rfl) ?_
      refine lv_aload_n (pc := 18) C0.1 C0.2.1 dX6_startOf_18 rfl (lv_at hl 3 rfl) ?_
      refine xget (pc := 19) C0 hH 4 1 clX6 ⟨Nat.le_of_ble_eq_true rfl, Nat.le_of_ble_eq_true rfl⟩ ⟨rfl, rfl⟩ (Nat.le_of_ble_eq_true rfl) fl_X6_15 (v := .int (i 4 1)) rfl dX6_startOf_19 ?_
      refine lv_iconst (pc := 22) (v := 1) C0.1 C0.2.1 dX6_startOf_22 (by decide) ?_
      have : Int32.toInt 1 = 1 := rfl
      refine lv_isub (pc := 23) C0.1 C0.2.1 dX6_startOf_23 ?_
      refine lv_topi (fun x101 ex101 => ?_)
      have hx101 : Int32.toInt x101 = Int32.toInt (i 4 1) - Int32.toInt 1 := by rw [ex101]; exact fb_subI (by omega) (by omega)
      refine lv_icmp_ge (pc := 24) (tgt := 56) C0.1 C0.2.1 dX6_startOf_24 (by decide) (fun c102 => ?_) (fun c102 => ?_)
      · have c102 := Int32.le_iff_toInt_le.mp c102
        refine lv_bipush (pc := 56) (v := (-9)) C0.1 C0.2.1 dX6_startOf_56 (by decide) ?_
        exact xiret (pc := 58) C0 hr hH hS dX6_startOf_58 ⟨rfl, by first | exact Or.inl rfl | exact Or.inr ⟨by have : Int32.toInt 0 = 0 := rfl; omega, by have : Int32.toInt 0 = 0 := rfl; omega⟩, by rw [h3, soR, if_pos (by rw [← ex101]; assumption)]⟩
      · have c102 : ¬ _ := fun q => c102 (Int32.le_iff_toInt_le.mpr q)
        refine lv_aload_n (pc := 27) C0.1 C0.2.1 dX6_startOf_27 rfl (lv_at hl 3 rfl) ?_
        refine xget (pc := 28) C0 hH 4 0 clX6 ⟨Nat.le_of_ble_eq_true rfl, Nat.le_of_ble_eq_true rfl⟩ ⟨rfl, rfl⟩ (Nat.le_of_ble_eq_true rfl) fl_X6_9 (v := .ref (b + 5)) rfl dX6_startOf_28 ?_
        refine lv_iload_n (pc := 31) C0.1 C0.2.1 dX6_startOf_31 rfl (lv_at hl 0 rfl) ?_
        refine xbald (pc := 32) (N := 600) C0 hH 5 ⟨Nat.le_of_ble_eq_true rfl, Nat.le_of_ble_eq_true rfl⟩ ⟨rfl, rfl⟩ (vI (by omega) (by omega)) dX6_startOf_32 ?_
        refine lv_bipush (pc := 33) (v := 10) C0.1 C0.2.1 dX6_startOf_33 (by decide) ?_
        refine lv_icmp_ne (pc := 35) (tgt := 50) C0.1 C0.2.1 dX6_startOf_35 (by decide) (fun c103 => ?_) (fun c103 => ?_)
        · have : Int32.toInt 10 = 10 := rfl
          have c103 : ¬ _ := fun q => c103 (Int32.toInt_inj.mp q)
          obtain ⟨x104, ex104⟩ : ∃ y_ : Int32, y_ = k + 1 := ⟨_, rfl⟩
          have : Int32.toInt 1 = 1 := rfl
          have hx104 : Int32.toInt x104 = Int32.toInt k + Int32.toInt 1 := by rw [ex104]; exact fb_addI (by omega) (by omega)
          refine lv_iinc (pc := 50) (v := x104) (lv' := [(3, .int x104), (2, .int q), (1, .int x), (0, .ref (b + 4))]) C0.1 C0.2.1 dX6_startOf_50 hl (k := 0) rfl (by rw [ex104]; rfl) (by decide) rfl (fun ls hl => ?_)
          refine lv_goto (pc := 53) (tgt := 17) C0.1 C0.2.1 dX6_startOf_53 (by decide) ?_
          exact ih x104 q _ _ _ (by omega) (by omega) (by rw [h3, soR]; subst_vars; first | (rw [if_neg (by assumption), if_pos (by assumption), if_neg (by assumption)]) | (rw [if_neg (by assumption), if_neg (by assumption)])) hH hS (lv_sub hl [0, 1, 2, 3] rfl)
        · have : Int32.toInt 10 = 10 := rfl
          have c103 := congrArg Int32.toInt c103
          obtain ⟨x105, ex105⟩ : ∃ y_ : Int32, y_ = q + 1 := ⟨_, rfl⟩
          refine lv_iinc (pc := 38) (v := x105) (lv' := [(2, .int x105), (3, .int k), (1, .int x), (0, .ref (b + 4))]) C0.1 C0.2.1 dX6_startOf_38 hl (k := 1) rfl (by rw [ex105]; rfl) (by decide) rfl (fun ls hl => ?_)
          refine lv_iload_n (pc := 41) C0.1 C0.2.1 dX6_startOf_41 rfl (lv_at hl 0 rfl) ?_
          refine lv_iload_n (pc := 42) C0.1 C0.2.1 dX6_startOf_42 rfl (lv_at hl 2 rfl) ?_
          refine lv_icmp_ne (pc := 43) (tgt := 50) C0.1 C0.2.1 dX6_startOf_43 (by decide) (fun c106 => ?_) (fun c106 => ?_)
          · have c106 : ¬ _ := fun q => c106 (Int32.toInt_inj.mp q)
            obtain ⟨x107, ex107⟩ : ∃ y_ : Int32, y_ = k + 1 := ⟨_, rfl⟩
            have : Int32.toInt 1 = 1 := rfl
            have hx107 : Int32.toInt x107 = Int32.toInt k + Int32.toInt 1 := by rw [ex107]; exact fb_addI (by omega) (by omega)
            refine lv_iinc (pc := 50) (v := x107) (lv' := [(3, .int x107), (2, .int x105), (1, .int x), (0, .ref (b + 4))]) C0.1 C0.2.1 dX6_startOf_50 hl (k := 1) rfl (by rw [ex107]; rfl) (by decide) rfl (fun ls hl => ?_)
            refine lv_goto (pc := 53) (tgt := 17) C0.1 C0.2.1 dX6_startOf_53 (by decide) ?_
            exact ih x107 x105 _ _ _ (by omega) (by omega) (by rw [h3, soR]; subst_vars; first | (rw [if_neg (by assumption), if_pos (by assumption), if_neg (by assumption)]) | (rw [if_neg (by assumption), if_neg (by assumption)])) hH hS (lv_sub hl [0, 1, 2, 3] rfl)
          · have c106 := congrArg Int32.toInt c106
            refine lv_iload_n (pc := 46) C0.1 C0.2.1 dX6_startOf_46 rfl (lv_at hl 1 rfl) ?_
            refine lv_iconst (pc := 47) (v := 1) C0.1 C0.2.1 dX6_startOf_47 (by decide) ?_
            have : Int32.toInt 1 = 1 := rfl
            refine lv_iadd (pc := 48) C0.1 C0.2.1 dX6_startOf_48 ?_
            refine lv_topi (fun x108 ex108 => ?_)
            have hx108 : Int32.toInt x108 = Int32.toInt k + Int32.toInt 1 := by rw [ex108]; exact fb_addI (by omega) (by omega)
            exact xiret (pc := 49) C0 hr hH hS dX6_startOf_49 ⟨rfl, by first | exact Or.inl rfl | exact Or.inr ⟨by have : Int32.toInt 0 = 0 := rfl; omega, by have : Int32.toInt 0 = 0 := rfl; omega⟩, by rw [h3, soR, if_neg (by rw [← ex101]; assumption), if_pos (by assumption), if_pos (by subst_vars; first | assumption | rfl)]; assumption⟩
  refine lv_iload_n (pc := 0) C0.1 C0.2.1 dX6_startOf_0 rfl (lv_at hl 1 rfl) ?_
  refine lv_if_ne (pc := 1) (tgt := 13) C0.1 C0.2.1 dX6_startOf_1 (by decide) (fun c1 => ?_) (fun c1 => ?_)
  · have : Int32.toInt 0 = 0 := rfl
    have c1 : ¬ _ := fun q => c1 (Int32.toInt_inj.mp q)
    refine lv_iconst (pc := 13) (v := 0) C0.1 C0.2.1 dX6_startOf_13 (by decide) ?_
    refine lv_istore_n (pc := 14) (lv' := [(2, .int 0), (0, .ref (b + 4)), (1, .int x)]) C0.1 C0.2.1 dX6_startOf_14 rfl hl (by decide) rfl (fun ls hl => ?_)
    refine lv_iconst (pc := 15) (v := 0) C0.1 C0.2.1 dX6_startOf_15 (by decide) ?_
    refine lv_istore_n (pc := 16) (lv' := [(3, .int 0), (2, .int 0), (0, .ref (b + 4)), (1, .int x)]) C0.1 C0.2.1 dX6_startOf_16 rfl hl (by decide) rfl (fun ls hl => ?_)
    exact LOOP 600 0 0 _ _ _ (by have : Int32.toInt 0 = 0 := rfl; omega) (by have : Int32.toInt 0 = 0 := rfl; omega) (by unfold so_; rw [if_neg (fun q => by have q1 := congrArg Int32.toInt q.1; have q2 := Int32.lt_iff_toInt_lt.mp q.2; have : Int32.toInt 0 = 0 := rfl; omega)]) hH hS (lv_sub hl [0, 1, 3, 2] rfl)
  · have : Int32.toInt 0 = 0 := rfl
    have c1 := congrArg Int32.toInt c1
    refine lv_aload_n (pc := 4) C0.1 C0.2.1 dX6_startOf_4 rfl (lv_at hl 0 rfl) ?_
    refine xget (pc := 5) C0 hH 4 1 clX6 ⟨Nat.le_of_ble_eq_true rfl, Nat.le_of_ble_eq_true rfl⟩ ⟨rfl, rfl⟩ (Nat.le_of_ble_eq_true rfl) fl_X6_15 (v := .int (i 4 1)) rfl dX6_startOf_5 ?_
    refine lv_if_le (pc := 8) (tgt := 13) C0.1 C0.2.1 dX6_startOf_8 (by decide) (fun c2 => ?_) (fun c2 => ?_)
    · have : Int32.toInt 0 = 0 := rfl
      have c2 := Int32.le_iff_toInt_le.mp c2
      refine lv_iconst (pc := 13) (v := 0) C0.1 C0.2.1 dX6_startOf_13 (by decide) ?_
      refine lv_istore_n (pc := 14) (lv' := [(2, .int 0), (0, .ref (b + 4)), (1, .int x)]) C0.1 C0.2.1 dX6_startOf_14 rfl hl (by decide) rfl (fun ls hl => ?_)
      refine lv_iconst (pc := 15) (v := 0) C0.1 C0.2.1 dX6_startOf_15 (by decide) ?_
      refine lv_istore_n (pc := 16) (lv' := [(3, .int 0), (2, .int 0), (0, .ref (b + 4)), (1, .int x)]) C0.1 C0.2.1 dX6_startOf_16 rfl hl (by decide) rfl (fun ls hl => ?_)
      exact LOOP 600 0 0 _ _ _ (by have : Int32.toInt 0 = 0 := rfl; omega) (by have : Int32.toInt 0 = 0 := rfl; omega) (by unfold so_; rw [if_neg (fun q => by have q1 := congrArg Int32.toInt q.1; have q2 := Int32.lt_iff_toInt_lt.mp q.2; have : Int32.toInt 0 = 0 := rfl; omega)]) hH hS (lv_sub hl [0, 1, 3, 2] rfl)
    · have : Int32.toInt 0 = 0 := rfl
      have c2 : ¬ _ := fun q => c2 (Int32.le_iff_toInt_le.mpr q)
      refine lv_iconst (pc := 11) (v := 0) C0.1 C0.2.1 dX6_startOf_11 (by decide) ?_
      exact xiret (pc := 12) C0 hr hH hS dX6_startOf_12 ⟨rfl, by first | exact Or.inl rfl | exact Or.inr ⟨by have : Int32.toInt 0 = 0 := rfl; omega, by have : Int32.toInt 0 = 0 := rfl; omega⟩, by unfold so_; rw [if_pos ⟨Int32.toInt_inj.mp (by omega), Int32.lt_iff_toInt_lt.mpr (by omega)⟩]⟩
set_option maxHeartbeats 4000000 in
set_option maxRecDepth 100000 in
theorem g_X6_columnFrom_6 (l : Launch) (D : va_G) (tA : Nat → ClassId) (b : Nat) (i F : Nat → Nat → Int32) (G : Nat → Nat → Int64) (x y z w : Int32) (hsz : 0 ≤ (i 6 1).toInt ∧ (i 6 1).toInt ≤ 600) : xMI l yX6_columnFrom cX6_columnFrom 7 (some .int) 1 22 D tA b 0 78 i F G [.ref (b + 6), .int x, .int y, .int z, .int w] (fun r u => u = (i, F, G) ∧ True) := by
  refine xstart RX6 rfl (by decide) (Nat.le_of_ble_eq_true rfl) ?_
  intro p e s m below meth c ls C0 hr hH hS hl
  have hl : lv_has ls 7 [(0, .ref (b + 6)), (1, .int x), (2, .int y), (3, .int z), (4, .int w)] := hl
  have rg_x := fb_rng x
  have rg_y := fb_rng y
  have rg_z := fb_rng z
  have rg_w := fb_rng w
  have LOOP : ∀ (d : Nat) (k q : Int32) (H : Heap) (locs : List Loc) (ls : Array Slot), (z.toInt - k.toInt ≤ d) → Hd D tA b 0 78 zz i F G H → va_S (xA b 0 78) s.heap H locs → lv_has ls 7 [(6, .int k), (5, .int q), (1, .int x), (2, .int y), (3, .int z), (4, .int w), (0, .ref (b + 6))] → W p l e (xR 1 22) s m ([.ref (b + 6), .int x, .int y, .int z, .int w] : List Value).toArray below meth c H locs 0 0 (MQ below (va_Qi (fun r u => u = (i, F, G) ∧ True) (xB D tA b 0 78 zz) (xA b 0 78)) ([.ref (b + 6), .int x, .int y, .int z, .int w] : List Value).toArray s 0 0 (xA b 0 78)) (F0 m 6 ls []) := by
    intro d
    induction d with
    | zero =>
      intro k q H locs ls h1 hH hS hl
      have rg_k := fb_rng k
      have rg_q := fb_rng q
      refine lv_iload (pc := 6) C0.1 C0.2.1 dX6_columnFrom_6 (lv_at hl 0 rfl) ?_
      refine lv_iload_n (pc := 8) C0.1 C0.2.1 dX6_columnFrom_8 rfl (lv_at hl 4 rfl) ?_
      refine lv_icmp_ge (pc := 9) (tgt := 33) C0.1 C0.2.1 dX6_columnFrom_9 (by decide) (fun _ => ?_) (fun c => absurd (Int32.le_iff_toInt_le.mpr (by omega)) c)
      refine lv_iload (pc := 33) C0.1 C0.2.1 dX6_columnFrom_33 (lv_at hl 1 rfl) ?_
      exact xiret (pc := 35) C0 hr hH hS dX6_columnFrom_35 ⟨rfl, trivial⟩
    | succ d ih =>
      intro k q H locs ls h1 hH hS hl
      have rg_k := fb_rng k
      have rg_q := fb_rng q
      refine lv_iload (pc := 6) C0.1 C0.2.1 dX6_columnFrom_6 (lv_at hl 0 rfl) ?_
      refine lv_iload_n (pc := 8) C0.1 C0.2.1 dX6_columnFrom_8 rfl (lv_at hl 4 rfl) ?_
      refine lv_icmp_ge (pc := 9) (tgt := 33) C0.1 C0.2.1 dX6_columnFrom_9 (by decide) (fun c101 => ?_) (fun c101 => ?_)
      · have c101 := Int32.le_iff_toInt_le.mp c101
        refine lv_iload (pc := 33) C0.1 C0.2.1 dX6_columnFrom_33 (lv_at hl 1 rfl) ?_
        exact xiret (pc := 35) C0 hr hH hS dX6_columnFrom_35 ⟨rfl, trivial⟩
      · have c101 : ¬ _ := fun q => c101 (Int32.le_iff_toInt_le.mpr q)
        refine lv_iload (pc := 12) C0.1 C0.2.1 dX6_columnFrom_12 (lv_at hl 1 rfl) ?_
        refine lv_aload_n (pc := 14) C0.1 C0.2.1 dX6_columnFrom_14 rfl (lv_at hl 6 rfl) ?_
        refine lv_iload (pc := 15) C0.1 C0.2.1 dX6_columnFrom_15 (lv_at hl 0 rfl) ?_
        refine xcVI (pc := 17) 6 [.int k] (g_X6_at_6 l D tA b i F G k hsz) C0 hH hS clX6 rfl ⟨⟨Nat.le_of_ble_eq_true rfl, Nat.le_of_ble_eq_true rfl⟩, rfl, rfl⟩ cw_X6_37 rfl ⟨Nat.le_of_ble_eq_true rfl, Nat.le_of_ble_eq_true rfl⟩ hl.1 rfl (Nat.le_of_ble_eq_true rfl) dX6_columnFrom_17 ⟨Nat.le_of_ble_eq_true rfl, Nat.le_of_ble_eq_true rfl⟩ (fun r102 ir102 Fr102 Gr102 _ locs hp hH hS => ?_)
        obtain ⟨hu, hpr102⟩ := hp
        cases hu
        refine lv_iload (pc := 20) C0.1 C0.2.1 dX6_columnFrom_20 (lv_at hl 5 rfl) ?_
        refine xcNI (pc := 22) [.int q, .int r102, .int w] (g_X9_columnBehind l D tA b i F G q r102 w ) C0 hH hS cw_X6_44 st_X9_columnBehind rfl ⟨Nat.le_of_ble_eq_true rfl, Nat.le_of_ble_eq_true rfl⟩ hl.1 rfl (Nat.le_of_ble_eq_true rfl) dX6_columnFrom_22 ⟨Nat.le_of_ble_eq_true rfl, Nat.le_of_ble_eq_true rfl⟩ (fun r103 ir103 Fr103 Gr103 _ locs hp hH hS => ?_)
        obtain ⟨hu, hpr103⟩ := hp
        cases hu
        refine lv_istore (pc := 25) (lv' := [(5, .int r103), (6, .int k), (1, .int x), (2, .int y), (3, .int z), (4, .int w), (0, .ref (b + 6))]) C0.1 C0.2.1 dX6_columnFrom_25 hl (by decide) rfl (fun ls hl => ?_)
        obtain ⟨x104, ex104⟩ : ∃ y_ : Int32, y_ = k + 1 := ⟨_, rfl⟩
        have : Int32.toInt 1 = 1 := rfl
        have hx104 : Int32.toInt x104 = Int32.toInt k + Int32.toInt 1 := by rw [ex104]; exact fb_addI (by omega) (by omega)
        refine lv_iinc (pc := 27) (v := x104) (lv' := [(6, .int x104), (5, .int r103), (1, .int x), (2, .int y), (3, .int z), (4, .int w), (0, .ref (b + 6))]) C0.1 C0.2.1 dX6_columnFrom_27 hl (k := 1) rfl (by rw [ex104]; rfl) (by decide) rfl (fun ls hl => ?_)
        refine lv_goto (pc := 30) (tgt := 6) C0.1 C0.2.1 dX6_columnFrom_30 (by decide) ?_
        exact ih x104 r103 _ _ _ (by omega) hH hS (lv_sub hl [0, 1, 2, 3, 4, 5, 6] rfl)
  refine lv_iload_n (pc := 0) C0.1 C0.2.1 dX6_columnFrom_0 rfl (lv_at hl 2 rfl) ?_
  refine lv_istore (pc := 1) (lv' := [(5, .int y), (0, .ref (b + 6)), (1, .int x), (2, .int y), (3, .int z), (4, .int w)]) C0.1 C0.2.1 dX6_columnFrom_1 hl (by decide) rfl (fun ls hl => ?_)
  refine lv_iload_n (pc := 3) C0.1 C0.2.1 dX6_columnFrom_3 rfl (lv_at hl 2 rfl) ?_
  refine lv_istore (pc := 4) (lv' := [(6, .int x), (5, .int y), (0, .ref (b + 6)), (1, .int x), (2, .int y), (3, .int z), (4, .int w)]) C0.1 C0.2.1 dX6_columnFrom_4 hl (by decide) rfl (fun ls hl => ?_)
  exact LOOP (z.toInt - x.toInt).toNat x y _ _ _ (by omega) hH hS (lv_sub hl [0, 1, 3, 4, 5, 6, 2] rfl)
set_option maxHeartbeats 4000000 in
set_option maxRecDepth 100000 in
theorem g_X6_columnAt_6 (l : Launch) (D : va_G) (tA : Nat → ClassId) (b : Nat) (i F : Nat → Nat → Int32) (G : Nat → Nat → Int64) (x y : Int32) (hsz : 0 ≤ (i 6 1).toInt ∧ (i 6 1).toInt ≤ 600) : xMI l yX6_columnAt cX6_columnAt 5 (some .int) 2 48 D tA b 0 78 i F G [.ref (b + 6), .int x, .int y] (fun r u => u = (i, F, G) ∧ True) := by
  refine xstart RX6 rfl (by decide) (Nat.le_of_ble_eq_true rfl) ?_
  intro p e s m below meth c ls C0 hr hH hS hl
  have hl : lv_has ls 5 [(0, .ref (b + 6)), (1, .int x), (2, .int y)] := hl
  have rg_x := fb_rng x
  have rg_y := fb_rng y
  have LOOP : ∀ (d : Nat) (k q : Int32) (H : Heap) (locs : List Loc) (ls : Array Slot), (0 ≤ k.toInt) → (x.toInt - k.toInt ≤ d) → Hd D tA b 0 78 zz i F G H → va_S (xA b 0 78) s.heap H locs → lv_has ls 5 [(4, .int k), (3, .int q), (1, .int x), (2, .int y), (0, .ref (b + 6))] → W p l e (xR 2 48) s m ([.ref (b + 6), .int x, .int y] : List Value).toArray below meth c H locs 0 0 (MQ below (va_Qi (fun r u => u = (i, F, G) ∧ True) (xB D tA b 0 78 zz) (xA b 0 78)) ([.ref (b + 6), .int x, .int y] : List Value).toArray s 0 0 (xA b 0 78)) (F0 m 5 ls []) := by
    intro d
    induction d with
    | zero =>
      intro k q H locs ls h1 h2 hH hS hl
      have rg_k := fb_rng k
      have rg_q := fb_rng q
      refine lv_iload (pc := 5) C0.1 C0.2.1 dX6_columnAt_5 (lv_at hl 0 rfl) ?_
      refine lv_iload_n (pc := 7) C0.1 C0.2.1 dX6_columnAt_7 rfl (lv_at hl 2 rfl) ?_
      refine lv_icmp_ge (pc := 8) (tgt := 33) C0.1 C0.2.1 dX6_columnAt_8 (by decide) (fun _ => ?_) (fun c => absurd (Int32.le_iff_toInt_le.mpr (by omega)) c)
      refine lv_aload_n (pc := 33) C0.1 C0.2.1 dX6_columnAt_33 rfl (lv_at hl 4 rfl) ?_
      refine lv_iload_n (pc := 34) C0.1 C0.2.1 dX6_columnAt_34 rfl (lv_at hl 1 rfl) ?_
      refine lv_iconst (pc := 35) (v := 0) C0.1 C0.2.1 dX6_columnAt_35 (by decide) ?_
      refine lv_iload_n (pc := 36) C0.1 C0.2.1 dX6_columnAt_36 rfl (lv_at hl 2 rfl) ?_
      refine lv_iload_n (pc := 37) C0.1 C0.2.1 dX6_columnAt_37 rfl (lv_at hl 3 rfl) ?_
      refine xcVI (pc := 38) 6 [.int q, .int 0, .int x, .int y] (g_X6_columnFrom_6 l D tA b i F G q 0 x y hsz) C0 hH hS clX6 rfl ⟨⟨Nat.le_of_ble_eq_true rfl, Nat.le_of_ble_eq_true rfl⟩, rfl, rfl⟩ cw_X6_40 rfl ⟨Nat.le_of_ble_eq_true rfl, Nat.le_of_ble_eq_true rfl⟩ hl.1 rfl (Nat.le_of_ble_eq_true rfl) dX6_columnAt_38 ⟨Nat.le_of_ble_eq_true rfl, Nat.le_of_ble_eq_true rfl⟩ (fun r101 ir101 Fr101 Gr101 _ locs hp hH hS => ?_)
      obtain ⟨hu, hpr101⟩ := hp
      cases hu
      exact xiret (pc := 41) C0 hr hH hS dX6_columnAt_41 ⟨rfl, trivial⟩
    | succ d ih =>
      intro k q H locs ls h1 h2 hH hS hl
      have rg_k := fb_rng k
      have rg_q := fb_rng q
      refine lv_iload (pc := 5) C0.1 C0.2.1 dX6_columnAt_5 (lv_at hl 0 rfl) ?_
      refine lv_iload_n (pc := 7) C0.1 C0.2.1 dX6_columnAt_7 rfl (lv_at hl 2 rfl) ?_
      refine lv_icmp_ge (pc := 8) (tgt := 33) C0.1 C0.2.1 dX6_columnAt_8 (by decide) (fun c101 => ?_) (fun c101 => ?_)
      · have c101 := Int32.le_iff_toInt_le.mp c101
        refine lv_aload_n (pc := 33) C0.1 C0.2.1 dX6_columnAt_33 rfl (lv_at hl 4 rfl) ?_
        refine lv_iload_n (pc := 34) C0.1 C0.2.1 dX6_columnAt_34 rfl (lv_at hl 1 rfl) ?_
        refine lv_iconst (pc := 35) (v := 0) C0.1 C0.2.1 dX6_columnAt_35 (by decide) ?_
        refine lv_iload_n (pc := 36) C0.1 C0.2.1 dX6_columnAt_36 rfl (lv_at hl 2 rfl) ?_
        refine lv_iload_n (pc := 37) C0.1 C0.2.1 dX6_columnAt_37 rfl (lv_at hl 3 rfl) ?_
        refine xcVI (pc := 38) 6 [.int q, .int 0, .int x, .int y] (g_X6_columnFrom_6 l D tA b i F G q 0 x y hsz) C0 hH hS clX6 rfl ⟨⟨Nat.le_of_ble_eq_true rfl, Nat.le_of_ble_eq_true rfl⟩, rfl, rfl⟩ cw_X6_40 rfl ⟨Nat.le_of_ble_eq_true rfl, Nat.le_of_ble_eq_true rfl⟩ hl.1 rfl (Nat.le_of_ble_eq_true rfl) dX6_columnAt_38 ⟨Nat.le_of_ble_eq_true rfl, Nat.le_of_ble_eq_true rfl⟩ (fun r102 ir102 Fr102 Gr102 _ locs hp hH hS => ?_)
        obtain ⟨hu, hpr102⟩ := hp
        cases hu
        exact xiret (pc := 41) C0 hr hH hS dX6_columnAt_41 ⟨rfl, trivial⟩
      · have c101 : ¬ _ := fun q => c101 (Int32.le_iff_toInt_le.mpr q)
        refine lv_aload_n (pc := 11) C0.1 C0.2.1 dX6_columnAt_11 rfl (lv_at hl 4 rfl) ?_
        refine lv_iload (pc := 12) C0.1 C0.2.1 dX6_columnAt_12 (lv_at hl 0 rfl) ?_
        refine xcVI (pc := 14) 6 [.int k] (g_X6_at_6 l D tA b i F G k hsz) C0 hH hS clX6 rfl ⟨⟨Nat.le_of_ble_eq_true rfl, Nat.le_of_ble_eq_true rfl⟩, rfl, rfl⟩ cw_X6_37 rfl ⟨Nat.le_of_ble_eq_true rfl, Nat.le_of_ble_eq_true rfl⟩ hl.1 rfl (Nat.le_of_ble_eq_true rfl) dX6_columnAt_14 ⟨Nat.le_of_ble_eq_true rfl, Nat.le_of_ble_eq_true rfl⟩ (fun r103 ir103 Fr103 Gr103 _ locs hp hH hS => ?_)
        obtain ⟨hu, hpr103⟩ := hp
        cases hu
        refine lv_bipush (pc := 17) (v := 10) C0.1 C0.2.1 dX6_columnAt_17 (by decide) ?_
        refine lv_icmp_ne (pc := 19) (tgt := 27) C0.1 C0.2.1 dX6_columnAt_19 (by decide) (fun c104 => ?_) (fun c104 => ?_)
        · have : Int32.toInt 10 = 10 := rfl
          have c104 : ¬ _ := fun q => c104 (Int32.toInt_inj.mp q)
          obtain ⟨x105, ex105⟩ : ∃ y_ : Int32, y_ = k + 1 := ⟨_, rfl⟩
          have : Int32.toInt 1 = 1 := rfl
          have hx105 : Int32.toInt x105 = Int32.toInt k + Int32.toInt 1 := by rw [ex105]; exact fb_addI (by omega) (by omega)
          refine lv_iinc (pc := 27) (v := x105) (lv' := [(4, .int x105), (3, .int q), (1, .int x), (2, .int y), (0, .ref (b + 6))]) C0.1 C0.2.1 dX6_columnAt_27 hl (k := 0) rfl (by rw [ex105]; rfl) (by decide) rfl (fun ls hl => ?_)
          refine lv_goto (pc := 30) (tgt := 5) C0.1 C0.2.1 dX6_columnAt_30 (by decide) ?_
          exact ih x105 q _ _ _ (by omega) (by omega) hH hS (lv_sub hl [0, 1, 2, 3, 4] rfl)
        · have : Int32.toInt 10 = 10 := rfl
          have c104 := congrArg Int32.toInt c104
          refine lv_iload (pc := 22) C0.1 C0.2.1 dX6_columnAt_22 (lv_at hl 0 rfl) ?_
          refine lv_iconst (pc := 24) (v := 1) C0.1 C0.2.1 dX6_columnAt_24 (by decide) ?_
          refine lv_iadd (pc := 25) C0.1 C0.2.1 dX6_columnAt_25 ?_
          refine lv_topi (fun x106 ex106 => ?_)
          refine lv_istore_n (pc := 26) (lv' := [(3, .int x106), (4, .int k), (1, .int x), (2, .int y), (0, .ref (b + 6))]) C0.1 C0.2.1 dX6_columnAt_26 rfl hl (by decide) rfl (fun ls hl => ?_)
          obtain ⟨x107, ex107⟩ : ∃ y_ : Int32, y_ = k + 1 := ⟨_, rfl⟩
          have : Int32.toInt 1 = 1 := rfl
          have hx107 : Int32.toInt x107 = Int32.toInt k + Int32.toInt 1 := by rw [ex107]; exact fb_addI (by omega) (by omega)
          refine lv_iinc (pc := 27) (v := x107) (lv' := [(4, .int x107), (3, .int x106), (1, .int x), (2, .int y), (0, .ref (b + 6))]) C0.1 C0.2.1 dX6_columnAt_27 hl (k := 1) rfl (by rw [ex107]; rfl) (by decide) rfl (fun ls hl => ?_)
          refine lv_goto (pc := 30) (tgt := 5) C0.1 C0.2.1 dX6_columnAt_30 (by decide) ?_
          exact ih x107 x106 _ _ _ (by omega) (by omega) hH hS (lv_sub hl [0, 1, 2, 3, 4] rfl)
  refine lv_iconst (pc := 0) (v := 0) C0.1 C0.2.1 dX6_columnAt_0 (by decide) ?_
  refine lv_istore_n (pc := 1) (lv' := [(3, .int 0), (0, .ref (b + 6)), (1, .int x), (2, .int y)]) C0.1 C0.2.1 dX6_columnAt_1 rfl hl (by decide) rfl (fun ls hl => ?_)
  refine lv_iconst (pc := 2) (v := 0) C0.1 C0.2.1 dX6_columnAt_2 (by decide) ?_
  refine lv_istore (pc := 3) (lv' := [(4, .int 0), (3, .int 0), (0, .ref (b + 6)), (1, .int x), (2, .int y)]) C0.1 C0.2.1 dX6_columnAt_3 hl (by decide) rfl (fun ls hl => ?_)
  exact LOOP (x.toInt).toNat 0 0 _ _ _ (by have : Int32.toInt 0 = 0 := rfl; omega) (by have : Int32.toInt 0 = 0 := rfl; omega) hH hS (lv_sub hl [0, 1, 3, 4, 2] rfl)
set_option maxHeartbeats 4000000 in
set_option maxRecDepth 100000 in
theorem g_X6_firstPlaceOf_6 (l : Launch) (D : va_G) (tA : Nat → ClassId) (b : Nat) (i F : Nat → Nat → Int32) (G : Nat → Nat → Int64) (x : Int32) (hsz : 0 ≤ (i 6 1).toInt ∧ (i 6 1).toInt ≤ 600) : xMI l yX6_firstPlaceOf cX6_firstPlaceOf 3 (some .int) 1 21 D tA b 0 78 i F G [.ref (b + 6), .int x] (fun r u => u = (i, F, G) ∧ True) := by
  refine xstart RX6 rfl (by decide) (Nat.le_of_ble_eq_true rfl) ?_
  intro p e s m below meth c ls C0 hr hH hS hl
  have hl : lv_has ls 3 [(0, .ref (b + 6)), (1, .int x)] := hl
  have rg_x := fb_rng x
  have LOOP : ∀ (d : Nat) (k : Int32) (H : Heap) (locs : List Loc) (ls : Array Slot), (0 ≤ k.toInt) → ((i 6 1).toInt - k.toInt ≤ d) → Hd D tA b 0 78 zz i F G H → va_S (xA b 0 78) s.heap H locs → lv_has ls 3 [(2, .int k), (1, .int x), (0, .ref (b + 6))] → W p l e (xR 1 21) s m ([.ref (b + 6), .int x] : List Value).toArray below meth c H locs 0 0 (MQ below (va_Qi (fun r u => u = (i, F, G) ∧ True) (xB D tA b 0 78 zz) (xA b 0 78)) ([.ref (b + 6), .int x] : List Value).toArray s 0 0 (xA b 0 78)) (F0 m 2 ls []) := by
    intro d
    induction d with
    | zero =>
      intro k H locs ls h1 h2 hH hS hl
      have rg_k := fb_rng k
      refine lv_iload_n (pc := 2) C0.1 C0.2.1 dX6_firstPlaceOf_2 rfl (lv_at hl 0 rfl) ?_
      refine lv_aload_n (pc := 3) C0.1 C0.2.1 dX6_firstPlaceOf_3 rfl (lv_at hl 2 rfl) ?_
      refine xget (pc := 4) C0 hH 6 1 clX6 ⟨Nat.le_of_ble_eq_true rfl, Nat.le_of_ble_eq_true rfl⟩ ⟨rfl, rfl⟩ (Nat.le_of_ble_eq_true rfl) fl_X6_15 (v := .int (i 6 1)) rfl dX6_firstPlaceOf_4 ?_
      refine lv_icmp_ge (pc := 7) (tgt := 27) C0.1 C0.2.1 dX6_firstPlaceOf_7 (by decide) (fun _ => ?_) (fun c => absurd (Int32.le_iff_toInt_le.mpr (by omega)) c)
      refine lv_bipush (pc := 27) (v := (-9)) C0.1 C0.2.1 dX6_firstPlaceOf_27 (by decide) ?_
      exact xiret (pc := 29) C0 hr hH hS dX6_firstPlaceOf_29 ⟨rfl, trivial⟩
    | succ d ih =>
      intro k H locs ls h1 h2 hH hS hl
      have rg_k := fb_rng k
      refine lv_iload_n (pc := 2) C0.1 C0.2.1 dX6_firstPlaceOf_2 rfl (lv_at hl 0 rfl) ?_
      refine lv_aload_n (pc := 3) C0.1 C0.2.1 dX6_firstPlaceOf_3 rfl (lv_at hl 2 rfl) ?_
      refine xget (pc := 4) C0 hH 6 1 clX6 ⟨Nat.le_of_ble_eq_true rfl, Nat.le_of_ble_eq_true rfl⟩ ⟨rfl, rfl⟩ (Nat.le_of_ble_eq_true rfl) fl_X6_15 (v := .int (i 6 1)) rfl dX6_firstPlaceOf_4 ?_
      refine lv_icmp_ge (pc := 7) (tgt := 27) C0.1 C0.2.1 dX6_firstPlaceOf_7 (by decide) (fun c101 => ?_) (fun c101 => ?_)
      · have c101 := Int32.le_iff_toInt_le.mp c101
        refine lv_bipush (pc := 27) (v := (-9)) C0.1 C0.2.1 dX6_firstPlaceOf_27 (by decide) ?_
        exact xiret (pc := 29) C0 hr hH hS dX6_firstPlaceOf_29 ⟨rfl, trivial⟩
      · have c101 : ¬ _ := fun q => c101 (Int32.le_iff_toInt_le.mpr q)
        refine lv_aload_n (pc := 10) C0.1 C0.2.1 dX6_firstPlaceOf_10 rfl (lv_at hl 2 rfl) ?_
        refine lv_iload_n (pc := 11) C0.1 C0.2.1 dX6_firstPlaceOf_11 rfl (lv_at hl 0 rfl) ?_
        refine xcVI (pc := 12) 6 [.int k] (g_X6_at_6 l D tA b i F G k hsz) C0 hH hS clX6 rfl ⟨⟨Nat.le_of_ble_eq_true rfl, Nat.le_of_ble_eq_true rfl⟩, rfl, rfl⟩ cw_X6_37 rfl ⟨Nat.le_of_ble_eq_true rfl, Nat.le_of_ble_eq_true rfl⟩ hl.1 rfl (Nat.le_of_ble_eq_true rfl) dX6_firstPlaceOf_12 ⟨Nat.le_of_ble_eq_true rfl, Nat.le_of_ble_eq_true rfl⟩ (fun r102 ir102 Fr102 Gr102 _ locs hp hH hS => ?_)
        obtain ⟨hu, hpr102⟩ := hp
        cases hu
        refine lv_iload_n (pc := 15) C0.1 C0.2.1 dX6_firstPlaceOf_15 rfl (lv_at hl 1 rfl) ?_
        refine lv_icmp_ne (pc := 16) (tgt := 21) C0.1 C0.2.1 dX6_firstPlaceOf_16 (by decide) (fun c103 => ?_) (fun c103 => ?_)
        · have c103 : ¬ _ := fun q => c103 (Int32.toInt_inj.mp q)
          obtain ⟨x104, ex104⟩ : ∃ y_ : Int32, y_ = k + 1 := ⟨_, rfl⟩
          have : Int32.toInt 1 = 1 := rfl
          have hx104 : Int32.toInt x104 = Int32.toInt k + Int32.toInt 1 := by rw [ex104]; exact fb_addI (by omega) (by omega)
          refine lv_iinc (pc := 21) (v := x104) (lv' := [(2, .int x104), (1, .int x), (0, .ref (b + 6))]) C0.1 C0.2.1 dX6_firstPlaceOf_21 hl (k := 0) rfl (by rw [ex104]; rfl) (by decide) rfl (fun ls hl => ?_)
          refine lv_goto (pc := 24) (tgt := 2) C0.1 C0.2.1 dX6_firstPlaceOf_24 (by decide) ?_
          exact ih x104 _ _ _ (by omega) (by omega) hH hS (lv_sub hl [0, 1, 2] rfl)
        · have c103 := congrArg Int32.toInt c103
          refine lv_iload_n (pc := 19) C0.1 C0.2.1 dX6_firstPlaceOf_19 rfl (lv_at hl 0 rfl) ?_
          exact xiret (pc := 20) C0 hr hH hS dX6_firstPlaceOf_20 ⟨rfl, trivial⟩
  refine lv_iconst (pc := 0) (v := 0) C0.1 C0.2.1 dX6_firstPlaceOf_0 (by decide) ?_
  refine lv_istore_n (pc := 1) (lv' := [(2, .int 0), (0, .ref (b + 6)), (1, .int x)]) C0.1 C0.2.1 dX6_firstPlaceOf_1 rfl hl (by decide) rfl (fun ls hl => ?_)
  exact LOOP 600 0 _ _ _ (by have : Int32.toInt 0 = 0 := rfl; omega) (by have : Int32.toInt 0 = 0 := rfl; omega) hH hS (lv_sub hl [0, 2, 1] rfl)
set_option maxHeartbeats 4000000 in
set_option maxRecDepth 100000 in
theorem g_X6_lineCount_6 (l : Launch) (D : va_G) (tA : Nat → ClassId) (b : Nat) (i F : Nat → Nat → Int32) (G : Nat → Nat → Int64)  (hsz : 0 ≤ (i 6 1).toInt ∧ (i 6 1).toInt ≤ 600) : xMI l yX6_lineCount cX6_lineCount 1 (some .int) 2 44 D tA b 0 78 i F G [.ref (b + 6)] (fun r u => u = (i, F, G) ∧ True) := by
  refine xstart RX6 rfl (by decide) (Nat.le_of_ble_eq_true rfl) ?_
  intro p e s m below meth c ls C0 hr hH hS hl
  have hl : lv_has ls 1 [(0, .ref (b + 6))] := hl
  refine lv_aload_n (pc := 0) C0.1 C0.2.1 dX6_lineCount_0 rfl (lv_at hl 0 rfl) ?_
  refine xget (pc := 1) C0 hH 6 1 clX6 ⟨Nat.le_of_ble_eq_true rfl, Nat.le_of_ble_eq_true rfl⟩ ⟨rfl, rfl⟩ (Nat.le_of_ble_eq_true rfl) fl_X6_15 (v := .int (i 6 1)) rfl dX6_lineCount_1 ?_
  refine lv_if_ne (pc := 4) (tgt := 11) C0.1 C0.2.1 dX6_lineCount_4 (by decide) (fun c1 => ?_) (fun c1 => ?_)
  · have : Int32.toInt 0 = 0 := rfl
    have c1 : ¬ _ := fun q => c1 (Int32.toInt_inj.mp q)
    refine lv_iconst (pc := 11) (v := 1) C0.1 C0.2.1 dX6_lineCount_11 (by decide) ?_
    refine lv_aload_n (pc := 12) C0.1 C0.2.1 dX6_lineCount_12 rfl (lv_at hl 0 rfl) ?_
    refine lv_aload_n (pc := 13) C0.1 C0.2.1 dX6_lineCount_13 rfl (lv_at hl 0 rfl) ?_
    refine xget (pc := 14) C0 hH 6 1 clX6 ⟨Nat.le_of_ble_eq_true rfl, Nat.le_of_ble_eq_true rfl⟩ ⟨rfl, rfl⟩ (Nat.le_of_ble_eq_true rfl) fl_X6_15 (v := .int (i 6 1)) rfl dX6_lineCount_14 ?_
    refine lv_iconst (pc := 17) (v := 1) C0.1 C0.2.1 dX6_lineCount_17 (by decide) ?_
    refine lv_isub (pc := 18) C0.1 C0.2.1 dX6_lineCount_18 ?_
    refine xcVI (pc := 19) 6 [.int ((i 6 1) - 1)] (g_X6_lineAt_6 l D tA b i F G ((i 6 1) - 1) hsz) C0 hH hS clX6 rfl ⟨⟨Nat.le_of_ble_eq_true rfl, Nat.le_of_ble_eq_true rfl⟩, rfl, rfl⟩ cw_X6_33 rfl ⟨Nat.le_of_ble_eq_true rfl, Nat.le_of_ble_eq_true rfl⟩ hl.1 rfl (Nat.le_of_ble_eq_true rfl) dX6_lineCount_19 ⟨Nat.le_of_ble_eq_true rfl, Nat.le_of_ble_eq_true rfl⟩ (fun r2 ir2 Fr2 Gr2 _ locs hp hH hS => ?_)
    obtain ⟨hu, hpr2⟩ := hp
    cases hu
    refine lv_iadd (pc := 22) C0.1 C0.2.1 dX6_lineCount_22 ?_
    exact xiret (pc := 23) C0 hr hH hS dX6_lineCount_23 ⟨rfl, trivial⟩
  · have : Int32.toInt 0 = 0 := rfl
    have c1 := congrArg Int32.toInt c1
    refine lv_iconst (pc := 7) (v := 0) C0.1 C0.2.1 dX6_lineCount_7 (by decide) ?_
    refine lv_goto (pc := 8) (tgt := 23) C0.1 C0.2.1 dX6_lineCount_8 (by decide) ?_
    exact xiret (pc := 23) C0 hr hH hS dX6_lineCount_23 ⟨rfl, trivial⟩
set_option maxHeartbeats 4000000 in
set_option maxRecDepth 100000 in
theorem g_X6_startOf_6 (l : Launch) (D : va_G) (tA : Nat → ClassId) (b : Nat) (i F : Nat → Nat → Int32) (G : Nat → Nat → Int64) (x : Int32) (hsz : 0 ≤ (i 6 1).toInt ∧ (i 6 1).toInt ≤ 600) : xMI l yX6_startOf cX6_startOf 4 (some .int) 0 0 D tA b 0 78 i F G [.ref (b + 6), .int x] (fun r u => u = (i, F, G) ∧ (r.toInt = -9 ∨ (0 ≤ r.toInt ∧ r.toInt < (i 6 1).toInt)) ∧ r = so_ (F 7) (i 6 1) x) := by
  refine xstart RX6 rfl (by decide) (Nat.le_of_ble_eq_true rfl) ?_
  intro p e s m below meth c ls C0 hr hH hS hl
  have hl : lv_has ls 4 [(0, .ref (b + 6)), (1, .int x)] := hl
  have rg_x := fb_rng x
  have LOOP : ∀ (d : Nat) (k q : Int32) (H : Heap) (locs : List Loc) (ls : Array Slot), (0 ≤ k.toInt) → ((i 6 1).toInt - k.toInt ≤ d) → (so_ (F 7) (i 6 1) x = soR (F 7) (i 6 1) x d k q) → Hd D tA b 0 78 zz i F G H → va_S (xA b 0 78) s.heap H locs → lv_has ls 4 [(3, .int k), (2, .int q), (1, .int x), (0, .ref (b + 6))] → W p l e (xR 0 0) s m ([.ref (b + 6), .int x] : List Value).toArray below meth c H locs 0 0 (MQ below (va_Qi (fun r u => u = (i, F, G) ∧ (r.toInt = -9 ∨ (0 ≤ r.toInt ∧ r.toInt < (i 6 1).toInt)) ∧ r = so_ (F 7) (i 6 1) x) (xB D tA b 0 78 zz) (xA b 0 78)) ([.ref (b + 6), .int x] : List Value).toArray s 0 0 (xA b 0 78)) (F0 m 17 ls []) := by
    intro d
    induction d with
    | zero =>
      intro k q H locs ls h1 h2 h3 hH hS hl
      have rg_k := fb_rng k
      have rg_q := fb_rng q
      refine lv_iload_n (pc := 17) C0.1 C0.2.1 dX6_startOf_17 rfl (lv_at hl 0 rfl) ?_
      refine lv_aload_n (pc := 18) C0.1 C0.2.1 dX6_startOf_18 rfl (lv_at hl 3 rfl) ?_
      refine xget (pc := 19) C0 hH 6 1 clX6 ⟨Nat.le_of_ble_eq_true rfl, Nat.le_of_ble_eq_true rfl⟩ ⟨rfl, rfl⟩ (Nat.le_of_ble_eq_true rfl) fl_X6_15 (v := .int (i 6 1)) rfl dX6_startOf_19 ?_
      refine lv_iconst (pc := 22) (v := 1) C0.1 C0.2.1 dX6_startOf_22 (by decide) ?_
      have : Int32.toInt 1 = 1 := rfl
      refine lv_isub (pc := 23) C0.1 C0.2.1 dX6_startOf_23 ?_
      refine lv_topi (fun x101 ex101 => ?_)
      have hx101 : Int32.toInt x101 = Int32.toInt (i 6 1) - Int32.toInt 1 := by rw [ex101]; exact fb_subI (by omega) (by omega)
      refine lv_icmp_ge (pc := 24) (tgt := 56) C0.1 C0.2.1 dX6_startOf_24 (by decide) (fun _ => ?_) (fun c => absurd (Int32.le_iff_toInt_le.mpr (by omega)) c)
      refine lv_bipush (pc := 56) (v := (-9)) C0.1 C0.2.1 dX6_startOf_56 (by decide) ?_
      exact xiret (pc := 58) C0 hr hH hS dX6_startOf_58 ⟨rfl, by first | exact Or.inl rfl | exact Or.inr ⟨by have : Int32.toInt 0 = 0 := rfl; omega, by have : Int32.toInt 0 = 0 := rfl; omega⟩, by rw [h3]; rfl⟩
    | succ d ih =>
      intro k q H locs ls h1 h2 h3 hH hS hl
      have rg_k := fb_rng k
      have rg_q := fb_rng q
      refine lv_iload_n (pc := 17) C0.1 C0.2.1 dX6_startOf_17 rfl (lv_at hl 0 rfl) ?_
      refine lv_aload_n (pc := 18) C0.1 C0.2.1 dX6_startOf_18 rfl (lv_at hl 3 rfl) ?_
      refine xget (pc := 19) C0 hH 6 1 clX6 ⟨Nat.le_of_ble_eq_true rfl, Nat.le_of_ble_eq_true rfl⟩ ⟨rfl, rfl⟩ (Nat.le_of_ble_eq_true rfl) fl_X6_15 (v := .int (i 6 1)) rfl dX6_startOf_19 ?_
      refine lv_iconst (pc := 22) (v := 1) C0.1 C0.2.1 dX6_startOf_22 (by decide) ?_
      have : Int32.toInt 1 = 1 := rfl
      refine lv_isub (pc := 23) C0.1 C0.2.1 dX6_startOf_23 ?_
      refine lv_topi (fun x101 ex101 => ?_)
      have hx101 : Int32.toInt x101 = Int32.toInt (i 6 1) - Int32.toInt 1 := by rw [ex101]; exact fb_subI (by omega) (by omega)
      refine lv_icmp_ge (pc := 24) (tgt := 56) C0.1 C0.2.1 dX6_startOf_24 (by decide) (fun c102 => ?_) (fun c102 => ?_)
      · have c102 := Int32.le_iff_toInt_le.mp c102
        refine lv_bipush (pc := 56) (v := (-9)) C0.1 C0.2.1 dX6_startOf_56 (by decide) ?_
        exact xiret (pc := 58) C0 hr hH hS dX6_startOf_58 ⟨rfl, by first | exact Or.inl rfl | exact Or.inr ⟨by have : Int32.toInt 0 = 0 := rfl; omega, by have : Int32.toInt 0 = 0 := rfl; omega⟩, by rw [h3, soR, if_pos (by rw [← ex101]; assumption)]⟩
      · have c102 : ¬ _ := fun q => c102 (Int32.le_iff_toInt_le.mpr q)
        refine lv_aload_n (pc := 27) C0.1 C0.2.1 dX6_startOf_27 rfl (lv_at hl 3 rfl) ?_
        refine xget (pc := 28) C0 hH 6 0 clX6 ⟨Nat.le_of_ble_eq_true rfl, Nat.le_of_ble_eq_true rfl⟩ ⟨rfl, rfl⟩ (Nat.le_of_ble_eq_true rfl) fl_X6_9 (v := .ref (b + 7)) rfl dX6_startOf_28 ?_
        refine lv_iload_n (pc := 31) C0.1 C0.2.1 dX6_startOf_31 rfl (lv_at hl 0 rfl) ?_
        refine xbald (pc := 32) (N := 600) C0 hH 7 ⟨Nat.le_of_ble_eq_true rfl, Nat.le_of_ble_eq_true rfl⟩ ⟨rfl, rfl⟩ (vI (by omega) (by omega)) dX6_startOf_32 ?_
        refine lv_bipush (pc := 33) (v := 10) C0.1 C0.2.1 dX6_startOf_33 (by decide) ?_
        refine lv_icmp_ne (pc := 35) (tgt := 50) C0.1 C0.2.1 dX6_startOf_35 (by decide) (fun c103 => ?_) (fun c103 => ?_)
        · have : Int32.toInt 10 = 10 := rfl
          have c103 : ¬ _ := fun q => c103 (Int32.toInt_inj.mp q)
          obtain ⟨x104, ex104⟩ : ∃ y_ : Int32, y_ = k + 1 := ⟨_, rfl⟩
          have : Int32.toInt 1 = 1 := rfl
          have hx104 : Int32.toInt x104 = Int32.toInt k + Int32.toInt 1 := by rw [ex104]; exact fb_addI (by omega) (by omega)
          refine lv_iinc (pc := 50) (v := x104) (lv' := [(3, .int x104), (2, .int q), (1, .int x), (0, .ref (b + 6))]) C0.1 C0.2.1 dX6_startOf_50 hl (k := 0) rfl (by rw [ex104]; rfl) (by decide) rfl (fun ls hl => ?_)
          refine lv_goto (pc := 53) (tgt := 17) C0.1 C0.2.1 dX6_startOf_53 (by decide) ?_
          exact ih x104 q _ _ _ (by omega) (by omega) (by rw [h3, soR]; subst_vars; first | (rw [if_neg (by assumption), if_pos (by assumption), if_neg (by assumption)]) | (rw [if_neg (by assumption), if_neg (by assumption)])) hH hS (lv_sub hl [0, 1, 2, 3] rfl)
        · have : Int32.toInt 10 = 10 := rfl
          have c103 := congrArg Int32.toInt c103
          obtain ⟨x105, ex105⟩ : ∃ y_ : Int32, y_ = q + 1 := ⟨_, rfl⟩
          refine lv_iinc (pc := 38) (v := x105) (lv' := [(2, .int x105), (3, .int k), (1, .int x), (0, .ref (b + 6))]) C0.1 C0.2.1 dX6_startOf_38 hl (k := 1) rfl (by rw [ex105]; rfl) (by decide) rfl (fun ls hl => ?_)
          refine lv_iload_n (pc := 41) C0.1 C0.2.1 dX6_startOf_41 rfl (lv_at hl 0 rfl) ?_
          refine lv_iload_n (pc := 42) C0.1 C0.2.1 dX6_startOf_42 rfl (lv_at hl 2 rfl) ?_
          refine lv_icmp_ne (pc := 43) (tgt := 50) C0.1 C0.2.1 dX6_startOf_43 (by decide) (fun c106 => ?_) (fun c106 => ?_)
          · have c106 : ¬ _ := fun q => c106 (Int32.toInt_inj.mp q)
            obtain ⟨x107, ex107⟩ : ∃ y_ : Int32, y_ = k + 1 := ⟨_, rfl⟩
            have : Int32.toInt 1 = 1 := rfl
            have hx107 : Int32.toInt x107 = Int32.toInt k + Int32.toInt 1 := by rw [ex107]; exact fb_addI (by omega) (by omega)
            refine lv_iinc (pc := 50) (v := x107) (lv' := [(3, .int x107), (2, .int x105), (1, .int x), (0, .ref (b + 6))]) C0.1 C0.2.1 dX6_startOf_50 hl (k := 1) rfl (by rw [ex107]; rfl) (by decide) rfl (fun ls hl => ?_)
            refine lv_goto (pc := 53) (tgt := 17) C0.1 C0.2.1 dX6_startOf_53 (by decide) ?_
            exact ih x107 x105 _ _ _ (by omega) (by omega) (by rw [h3, soR]; subst_vars; first | (rw [if_neg (by assumption), if_pos (by assumption), if_neg (by assumption)]) | (rw [if_neg (by assumption), if_neg (by assumption)])) hH hS (lv_sub hl [0, 1, 2, 3] rfl)
          · have c106 := congrArg Int32.toInt c106
            refine lv_iload_n (pc := 46) C0.1 C0.2.1 dX6_startOf_46 rfl (lv_at hl 1 rfl) ?_
            refine lv_iconst (pc := 47) (v := 1) C0.1 C0.2.1 dX6_startOf_47 (by decide) ?_
            have : Int32.toInt 1 = 1 := rfl
            refine lv_iadd (pc := 48) C0.1 C0.2.1 dX6_startOf_48 ?_
            refine lv_topi (fun x108 ex108 => ?_)
            have hx108 : Int32.toInt x108 = Int32.toInt k + Int32.toInt 1 := by rw [ex108]; exact fb_addI (by omega) (by omega)
            exact xiret (pc := 49) C0 hr hH hS dX6_startOf_49 ⟨rfl, by first | exact Or.inl rfl | exact Or.inr ⟨by have : Int32.toInt 0 = 0 := rfl; omega, by have : Int32.toInt 0 = 0 := rfl; omega⟩, by rw [h3, soR, if_neg (by rw [← ex101]; assumption), if_pos (by assumption), if_pos (by subst_vars; first | assumption | rfl)]; assumption⟩
  refine lv_iload_n (pc := 0) C0.1 C0.2.1 dX6_startOf_0 rfl (lv_at hl 1 rfl) ?_
  refine lv_if_ne (pc := 1) (tgt := 13) C0.1 C0.2.1 dX6_startOf_1 (by decide) (fun c1 => ?_) (fun c1 => ?_)
  · have : Int32.toInt 0 = 0 := rfl
    have c1 : ¬ _ := fun q => c1 (Int32.toInt_inj.mp q)
    refine lv_iconst (pc := 13) (v := 0) C0.1 C0.2.1 dX6_startOf_13 (by decide) ?_
    refine lv_istore_n (pc := 14) (lv' := [(2, .int 0), (0, .ref (b + 6)), (1, .int x)]) C0.1 C0.2.1 dX6_startOf_14 rfl hl (by decide) rfl (fun ls hl => ?_)
    refine lv_iconst (pc := 15) (v := 0) C0.1 C0.2.1 dX6_startOf_15 (by decide) ?_
    refine lv_istore_n (pc := 16) (lv' := [(3, .int 0), (2, .int 0), (0, .ref (b + 6)), (1, .int x)]) C0.1 C0.2.1 dX6_startOf_16 rfl hl (by decide) rfl (fun ls hl => ?_)
    exact LOOP 600 0 0 _ _ _ (by have : Int32.toInt 0 = 0 := rfl; omega) (by have : Int32.toInt 0 = 0 := rfl; omega) (by unfold so_; rw [if_neg (fun q => by have q1 := congrArg Int32.toInt q.1; have q2 := Int32.lt_iff_toInt_lt.mp q.2; have : Int32.toInt 0 = 0 := rfl; omega)]) hH hS (lv_sub hl [0, 1, 3, 2] rfl)
  · have : Int32.toInt 0 = 0 := rfl
    have c1 := congrArg Int32.toInt c1
    refine lv_aload_n (pc := 4) C0.1 C0.2.1 dX6_startOf_4 rfl (lv_at hl 0 rfl) ?_
    refine xget (pc := 5) C0 hH 6 1 clX6 ⟨Nat.le_of_ble_eq_true rfl, Nat.le_of_ble_eq_true rfl⟩ ⟨rfl, rfl⟩ (Nat.le_of_ble_eq_true rfl) fl_X6_15 (v := .int (i 6 1)) rfl dX6_startOf_5 ?_
    refine lv_if_le (pc := 8) (tgt := 13) C0.1 C0.2.1 dX6_startOf_8 (by decide) (fun c2 => ?_) (fun c2 => ?_)
    · have : Int32.toInt 0 = 0 := rfl
      have c2 := Int32.le_iff_toInt_le.mp c2
      refine lv_iconst (pc := 13) (v := 0) C0.1 C0.2.1 dX6_startOf_13 (by decide) ?_
      refine lv_istore_n (pc := 14) (lv' := [(2, .int 0), (0, .ref (b + 6)), (1, .int x)]) C0.1 C0.2.1 dX6_startOf_14 rfl hl (by decide) rfl (fun ls hl => ?_)
      refine lv_iconst (pc := 15) (v := 0) C0.1 C0.2.1 dX6_startOf_15 (by decide) ?_
      refine lv_istore_n (pc := 16) (lv' := [(3, .int 0), (2, .int 0), (0, .ref (b + 6)), (1, .int x)]) C0.1 C0.2.1 dX6_startOf_16 rfl hl (by decide) rfl (fun ls hl => ?_)
      exact LOOP 600 0 0 _ _ _ (by have : Int32.toInt 0 = 0 := rfl; omega) (by have : Int32.toInt 0 = 0 := rfl; omega) (by unfold so_; rw [if_neg (fun q => by have q1 := congrArg Int32.toInt q.1; have q2 := Int32.lt_iff_toInt_lt.mp q.2; have : Int32.toInt 0 = 0 := rfl; omega)]) hH hS (lv_sub hl [0, 1, 3, 2] rfl)
    · have : Int32.toInt 0 = 0 := rfl
      have c2 : ¬ _ := fun q => c2 (Int32.le_iff_toInt_le.mpr q)
      refine lv_iconst (pc := 11) (v := 0) C0.1 C0.2.1 dX6_startOf_11 (by decide) ?_
      exact xiret (pc := 12) C0 hr hH hS dX6_startOf_12 ⟨rfl, by first | exact Or.inl rfl | exact Or.inr ⟨by have : Int32.toInt 0 = 0 := rfl; omega, by have : Int32.toInt 0 = 0 := rfl; omega⟩, by unfold so_; rw [if_pos ⟨Int32.toInt_inj.mp (by omega), Int32.lt_iff_toInt_lt.mpr (by omega)⟩]⟩
