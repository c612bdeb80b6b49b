set_option maxRecDepth 20000 in
theorem fl_X10_219 : Cond.fieldLink RX10 219 (TX10 12).1 (TX10 12).2.1 (TX10 12).2.2.1 ∈ WALL := wm 1036 (by decide +kernel) rfl
set_option maxRecDepth 20000 in
theorem cw_X10_222 : CwV RX10 222 yX10_lineAt cX10_lineAt 4 (some .int) 1 := ⟨wm 1329 (by decide +kernel) rfl, wm 1331 (by decide +kernel) rfl, wms 39 (by decide +kernel) rfl, wm 11 (by decide +kernel) rfl, wm 1332 rfl rfl, by decide +kernel⟩
theorem dX10_lines_4 : decode cX10_lines 4 = .ok (.iload_n 2, 1) := by decide +kernel
theorem dX10_lines_5 : decode cX10_lines 5 = .ok (.aload_n 0, 1) := by decide +kernel
theorem dX10_lines_6 : decode cX10_lines 6 = .ok (.getfield 219, 3) := by decide +kernel
theorem dX10_lines_9 : decode cX10_lines 9 = .ok (.if_icmp .ge 28, 3) := by decide +kernel
theorem dX10_lines_37 : decode cX10_lines 37 = .ok (.aload_n 0, 1) := by decide +kernel
theorem dX10_lines_38 : decode cX10_lines 38 = .ok (.getfield 219, 3) := by decide +kernel
theorem dX10_lines_41 : decode cX10_lines 41 = .ok (.ifCond .le 25, 3) := by decide +kernel
theorem dX10_lines_66 : decode cX10_lines 66 = .ok (.iload_n 1, 1) := by decide +kernel
theorem dX10_lines_67 : decode cX10_lines 67 = .ok (.ireturn, 1) := by decide +kernel
theorem dX10_lines_44 : decode cX10_lines 44 = .ok (.aload_n 0, 1) := by decide +kernel
theorem dX10_lines_45 : decode cX10_lines 45 = .ok (.getfield 29, 3) := by decide +kernel
theorem dX10_lines_48 : decode cX10_lines 48 = .ok (.aload_n 0, 1) := by decide +kernel
theorem dX10_lines_49 : decode cX10_lines 49 = .ok (.getfield 219, 3) := by decide +kernel
theorem dX10_lines_52 : decode cX10_lines 52 = .ok (.iconst 1, 1) := by decide +kernel
theorem dX10_lines_53 : decode cX10_lines 53 = .ok (.isub, 1) := by decide +kernel
theorem dX10_lines_54 : decode cX10_lines 54 = .ok (.baload, 1) := by decide +kernel
theorem dX10_lines_55 : decode cX10_lines 55 = .ok (.bipush 10, 2) := by decide +kernel
theorem dX10_lines_57 : decode cX10_lines 57 = .ok (.if_icmp .eq 9, 3) := by decide +kernel
theorem dX10_lines_60 : decode cX10_lines 60 = .ok (.iload_n 1, 1) := by decide +kernel
theorem dX10_lines_61 : decode cX10_lines 61 = .ok (.iconst 1, 1) := by decide +kernel
theorem dX10_lines_62 : decode cX10_lines 62 = .ok (.iadd, 1) := by decide +kernel
theorem dX10_lines_63 : decode cX10_lines 63 = .ok (.goto 4, 3) := by decide +kernel
theorem dX10_lines_12 : decode cX10_lines 12 = .ok (.iload_n 1, 1) := by decide +kernel
theorem dX10_lines_13 : decode cX10_lines 13 = .ok (.aload_n 0, 1) := by decide +kernel
theorem dX10_lines_14 : decode cX10_lines 14 = .ok (.getfield 29, 3) := by decide +kernel
theorem dX10_lines_17 : decode cX10_lines 17 = .ok (.iload_n 2, 1) := by decide +kernel
theorem dX10_lines_18 : decode cX10_lines 18 = .ok (.baload, 1) := by decide +kernel
theorem dX10_lines_19 : decode cX10_lines 19 = .ok (.bipush 10, 2) := by decide +kernel
theorem dX10_lines_21 : decode cX10_lines 21 = .ok (.if_icmp .ne 7, 3) := by decide +kernel
theorem dX10_lines_28 : decode cX10_lines 28 = .ok (.iconst 0, 1) := by decide +kernel
theorem dX10_lines_29 : decode cX10_lines 29 = .ok (.iadd, 1) := by decide +kernel
theorem dX10_lines_30 : decode cX10_lines 30 = .ok (.istore_n 1, 1) := by decide +kernel
theorem dX10_lines_31 : decode cX10_lines 31 = .ok (.iinc 2 1, 3) := by decide +kernel
theorem dX10_lines_34 : decode cX10_lines 34 = .ok (.goto (-30), 3) := by decide +kernel
theorem dX10_lines_24 : decode cX10_lines 24 = .ok (.iconst 1, 1) := by decide +kernel
theorem dX10_lines_25 : decode cX10_lines 25 = .ok (.goto 4, 3) := by decide +kernel
theorem dX10_lines_0 : decode cX10_lines 0 = .ok (.iconst 0, 1) := by decide +kernel
theorem dX10_lines_1 : decode cX10_lines 1 = .ok (.istore_n 1, 1) := by decide +kernel
theorem dX10_lines_2 : decode cX10_lines 2 = .ok (.iconst 0, 1) := by decide +kernel
theorem dX10_lines_3 : decode cX10_lines 3 = .ok (.istore_n 2, 1) := by decide +kernel
theorem dX10_lineAt_4 : decode cX10_lineAt 4 = .ok (.iload_n 3, 1) := by decide +kernel
theorem dX10_lineAt_5 : decode cX10_lineAt 5 = .ok (.iload_n 1, 1) := by decide +kernel
theorem dX10_lineAt_6 : decode cX10_lineAt 6 = .ok (.if_icmp .ge 28, 3) := by decide +kernel
theorem dX10_lineAt_34 : decode cX10_lineAt 34 = .ok (.iload_n 2, 1) := by decide +kernel
theorem dX10_lineAt_35 : decode cX10_lineAt 35 = .ok (.ireturn, 1) := by decide +kernel
theorem dX10_lineAt_9 : decode cX10_lineAt 9 = .ok (.iload_n 3, 1) := by decide +kernel
theorem dX10_lineAt_10 : decode cX10_lineAt 10 = .ok (.aload_n 0, 1) := by decide +kernel
theorem dX10_lineAt_11 : decode cX10_lineAt 11 = .ok (.getfield 29, 3) := by decide +kernel
theorem dX10_lineAt_14 : decode cX10_lineAt 14 = .ok (.iload_n 2, 1) := by decide +kernel
theorem dX10_lineAt_15 : decode cX10_lineAt 15 = .ok (.baload, 1) := by decide +kernel
theorem dX10_lineAt_16 : decode cX10_lineAt 16 = .ok (.bipush 10, 2) := by decide +kernel
theorem dX10_lineAt_18 : decode cX10_lineAt 18 = .ok (.if_icmp .ne 7, 3) := by decide +kernel
theorem dX10_lineAt_25 : decode cX10_lineAt 25 = .ok (.iconst 0, 1) := by decide +kernel
theorem dX10_lineAt_26 : decode cX10_lineAt 26 = .ok (.iadd, 1) := by decide +kernel
theorem dX10_lineAt_27 : decode cX10_lineAt 27 = .ok (.istore_n 3, 1) := by decide +kernel
theorem dX10_lineAt_28 : decode cX10_lineAt 28 = .ok (.iinc 2 1, 3) := by decide +kernel
theorem dX10_lineAt_31 : decode cX10_lineAt 31 = .ok (.goto (-27), 3) := by decide +kernel
theorem dX10_lineAt_21 : decode cX10_lineAt 21 = .ok (.iconst 1, 1) := by decide +kernel
theorem dX10_lineAt_22 : decode cX10_lineAt 22 = .ok (.goto 4, 3) := by decide +kernel
theorem dX10_lineAt_0 : decode cX10_lineAt 0 = .ok (.iconst 0, 1) := by decide +kernel
theorem dX10_lineAt_1 : decode cX10_lineAt 1 = .ok (.istore_n 2, 1) := by decide +kernel
theorem dX10_lineAt_2 : decode cX10_lineAt 2 = .ok (.iconst 0, 1) := by decide +kernel
theorem dX10_lineAt_3 : decode cX10_lineAt 3 = .ok (.istore_n 3, 1) := by decide +kernel
theorem dX10_mayShift_9 : decode cX10_mayShift 9 = .ok (.iload 4, 2) := by decide +kernel
theorem dX10_mayShift_11 : decode cX10_mayShift 11 = .ok (.iload_n 2, 1) := by decide +kernel
theorem dX10_mayShift_12 : decode cX10_mayShift 12 = .ok (.ineg, 1) := by decide +kernel
theorem dX10_mayShift_13 : decode cX10_mayShift 13 = .ok (.if_icmp .ge 37, 3) := by decide +kernel
theorem dX10_mayShift_50 : decode cX10_mayShift 50 = .ok (.aload_n 0, 1) := by decide +kernel
theorem dX10_mayShift_51 : decode cX10_mayShift 51 = .ok (.getfield 219, 3) := by decide +kernel
theorem dX10_mayShift_54 : decode cX10_mayShift 54 = .ok (.iload_n 2, 1) := by decide +kernel
theorem dX10_mayShift_55 : decode cX10_mayShift 55 = .ok (.iadd, 1) := by decide +kernel
theorem dX10_mayShift_56 : decode cX10_mayShift 56 = .ok (.sipush 600, 3) := by decide +kernel
theorem dX10_mayShift_59 : decode cX10_mayShift 59 = .ok (.if_icmp .le 8, 3) := by decide +kernel
theorem dX10_mayShift_67 : decode cX10_mayShift 67 = .ok (.iconst 1, 1) := by decide +kernel
theorem dX10_mayShift_68 : decode cX10_mayShift 68 = .ok (.ireturn, 1) := by decide +kernel
theorem dX10_mayShift_62 : decode cX10_mayShift 62 = .ok (.bipush (-4), 2) := by decide +kernel
theorem dX10_mayShift_64 : decode cX10_mayShift 64 = .ok (.goto 4, 3) := by decide +kernel
theorem dX10_mayShift_16 : decode cX10_mayShift 16 = .ok (.iload_n 3, 1) := by decide +kernel
theorem dX10_mayShift_17 : decode cX10_mayShift 17 = .ok (.iload 4, 2) := by decide +kernel
theorem dX10_mayShift_19 : decode cX10_mayShift 19 = .ok (.iadd, 1) := by decide +kernel
theorem dX10_mayShift_20 : decode cX10_mayShift 20 = .ok (.aload_n 0, 1) := by decide +kernel
theorem dX10_mayShift_21 : decode cX10_mayShift 21 = .ok (.getfield 219, 3) := by decide +kernel
theorem dX10_mayShift_24 : decode cX10_mayShift 24 = .ok (.if_icmp .ge 17, 3) := by decide +kernel
theorem dX10_mayShift_41 : decode cX10_mayShift 41 = .ok (.bipush (-3), 2) := by decide +kernel
theorem dX10_mayShift_43 : decode cX10_mayShift 43 = .ok (.ireturn, 1) := by decide +kernel
theorem dX10_mayShift_27 : decode cX10_mayShift 27 = .ok (.aload_n 0, 1) := by decide +kernel
theorem dX10_mayShift_28 : decode cX10_mayShift 28 = .ok (.getfield 29, 3) := by decide +kernel
theorem dX10_mayShift_31 : decode cX10_mayShift 31 = .ok (.iload_n 3, 1) := by decide +kernel
theorem dX10_mayShift_32 : decode cX10_mayShift 32 = .ok (.iload 4, 2) := by decide +kernel
theorem dX10_mayShift_34 : decode cX10_mayShift 34 = .ok (.iadd, 1) := by decide +kernel
theorem dX10_mayShift_35 : decode cX10_mayShift 35 = .ok (.baload, 1) := by decide +kernel
theorem dX10_mayShift_36 : decode cX10_mayShift 36 = .ok (.bipush 32, 2) := by decide +kernel
theorem dX10_mayShift_38 : decode cX10_mayShift 38 = .ok (.if_icmp .eq 6, 3) := by decide +kernel
theorem dX10_mayShift_44 : decode cX10_mayShift 44 = .ok (.iinc 4 1, 3) := by decide +kernel
theorem dX10_mayShift_47 : decode cX10_mayShift 47 = .ok (.goto (-38), 3) := by decide +kernel
theorem dX10_mayShift_0 : decode cX10_mayShift 0 = .ok (.aload_n 0, 1) := by decide +kernel
theorem dX10_mayShift_1 : decode cX10_mayShift 1 = .ok (.iload_n 1, 1) := by decide +kernel
theorem dX10_mayShift_2 : decode cX10_mayShift 2 = .ok (.invokevirtual 222, 3) := by decide +kernel
theorem dX10_mayShift_5 : decode cX10_mayShift 5 = .ok (.istore_n 3, 1) := by decide +kernel
theorem dX10_mayShift_6 : decode cX10_mayShift 6 = .ok (.iconst 0, 1) := by decide +kernel
theorem dX10_mayShift_7 : decode cX10_mayShift 7 = .ok (.istore 4, 2) := by decide +kernel
theorem dX10_move_111 : decode cX10_move 111 = .ok (.aload_n 0, 1) := by decide +kernel
theorem dX10_move_112 : decode cX10_move 112 = .ok (.dup, 1) := by decide +kernel
theorem dX10_move_113 : decode cX10_move 113 = .ok (.getfield 219, 3) := by decide +kernel
theorem dX10_move_116 : decode cX10_move 116 = .ok (.iload_n 2, 1) := by decide +kernel
theorem dX10_move_117 : decode cX10_move 117 = .ok (.iadd, 1) := by decide +kernel
theorem dX10_move_118 : decode cX10_move 118 = .ok (.putfield 219, 3) := by decide +kernel
theorem dX10_move_121 : decode cX10_move 121 = .ok (.return_, 1) := by decide +kernel
theorem dX10_move_80 : decode cX10_move 80 = .ok (.iload 4, 2) := by decide +kernel
theorem dX10_move_82 : decode cX10_move 82 = .ok (.aload_n 0, 1) := by decide +kernel
theorem dX10_move_83 : decode cX10_move 83 = .ok (.getfield 219, 3) := by decide +kernel
theorem dX10_move_86 : decode cX10_move 86 = .ok (.if_icmp .ge 25, 3) := by decide +kernel
theorem dX10_move_89 : decode cX10_move 89 = .ok (.aload_n 0, 1) := by decide +kernel
theorem dX10_move_90 : decode cX10_move 90 = .ok (.getfield 29, 3) := by decide +kernel
theorem dX10_move_93 : decode cX10_move 93 = .ok (.iload 4, 2) := by decide +kernel
theorem dX10_move_95 : decode cX10_move 95 = .ok (.iload_n 2, 1) := by decide +kernel
theorem dX10_move_96 : decode cX10_move 96 = .ok (.iadd, 1) := by decide +kernel
theorem dX10_move_97 : decode cX10_move 97 = .ok (.aload_n 0, 1) := by decide +kernel
theorem dX10_move_98 : decode cX10_move 98 = .ok (.getfield 29, 3) := by decide +kernel
theorem dX10_move_101 : decode cX10_move 101 = .ok (.iload 4, 2) := by decide +kernel
theorem dX10_move_103 : decode cX10_move 103 = .ok (.baload, 1) := by decide +kernel
theorem dX10_move_104 : decode cX10_move 104 = .ok (.bastore, 1) := by decide +kernel
theorem dX10_move_105 : decode cX10_move 105 = .ok (.iinc 4 1, 3) := by decide +kernel
theorem dX10_move_108 : decode cX10_move 108 = .ok (.goto (-28), 3) := by decide +kernel
theorem dX10_move_49 : decode cX10_move 49 = .ok (.iload 4, 2) := by decide +kernel
theorem dX10_move_51 : decode cX10_move 51 = .ok (.iload_n 2, 1) := by decide +kernel
theorem dX10_move_52 : decode cX10_move 52 = .ok (.if_icmp .ge 20, 3) := by decide +kernel
theorem dX10_move_72 : decode cX10_move 72 = .ok (.goto 39, 3) := by decide +kernel
theorem dX10_move_55 : decode cX10_move 55 = .ok (.aload_n 0, 1) := by decide +kernel
theorem dX10_move_56 : decode cX10_move 56 = .ok (.getfield 29, 3) := by decide +kernel
theorem dX10_move_59 : decode cX10_move 59 = .ok (.iload_n 3, 1) := by decide +kernel
theorem dX10_move_60 : decode cX10_move 60 = .ok (.iload 4, 2) := by decide +kernel
theorem dX10_move_62 : decode cX10_move 62 = .ok (.iadd, 1) := by decide +kernel
theorem dX10_move_63 : decode cX10_move 63 = .ok (.bipush 32, 2) := by decide +kernel
theorem dX10_move_65 : decode cX10_move 65 = .ok (.bastore, 1) := by decide +kernel
theorem dX10_move_66 : decode cX10_move 66 = .ok (.iinc 4 1, 3) := by decide +kernel
theorem dX10_move_69 : decode cX10_move 69 = .ok (.goto (-20), 3) := by decide +kernel
theorem dX10_move_18 : decode cX10_move 18 = .ok (.iload 4, 2) := by decide +kernel
theorem dX10_move_20 : decode cX10_move 20 = .ok (.iload_n 3, 1) := by decide +kernel
theorem dX10_move_21 : decode cX10_move 21 = .ok (.if_icmp .lt 25, 3) := by decide +kernel
theorem dX10_move_46 : decode cX10_move 46 = .ok (.iconst 0, 1) := by decide +kernel
theorem dX10_move_47 : decode cX10_move 47 = .ok (.istore 4, 2) := by decide +kernel
theorem dX10_move_24 : decode cX10_move 24 = .ok (.aload_n 0, 1) := by decide +kernel
theorem dX10_move_25 : decode cX10_move 25 = .ok (.getfield 29, 3) := by decide +kernel
theorem dX10_move_28 : decode cX10_move 28 = .ok (.iload 4, 2) := by decide +kernel
theorem dX10_move_30 : decode cX10_move 30 = .ok (.iload_n 2, 1) := by decide +kernel
theorem dX10_move_31 : decode cX10_move 31 = .ok (.iadd, 1) := by decide +kernel
theorem dX10_move_32 : decode cX10_move 32 = .ok (.aload_n 0, 1) := by decide +kernel
theorem dX10_move_33 : decode cX10_move 33 = .ok (.getfield 29, 3) := by decide +kernel
theorem dX10_move_36 : decode cX10_move 36 = .ok (.iload 4, 2) := by decide +kernel
theorem dX10_move_38 : decode cX10_move 38 = .ok (.baload, 1) := by decide +kernel
theorem dX10_move_39 : decode cX10_move 39 = .ok (.bastore, 1) := by decide +kernel
theorem dX10_move_40 : decode cX10_move 40 = .ok (.iinc 4 (-1), 3) := by decide +kernel
theorem dX10_move_43 : decode cX10_move 43 = .ok (.goto (-25), 3) := by decide +kernel
theorem dX10_move_0 : decode cX10_move 0 = .ok (.aload_n 0, 1) := by decide +kernel
theorem dX10_move_1 : decode cX10_move 1 = .ok (.iload_n 1, 1) := by decide +kernel
theorem dX10_move_2 : decode cX10_move 2 = .ok (.invokevirtual 222, 3) := by decide +kernel
theorem dX10_move_5 : decode cX10_move 5 = .ok (.istore_n 3, 1) := by decide +kernel
theorem dX10_move_6 : decode cX10_move 6 = .ok (.iload_n 2, 1) := by decide +kernel
theorem dX10_move_7 : decode cX10_move 7 = .ok (.ifCond .le 68, 3) := by decide +kernel
theorem dX10_move_75 : decode cX10_move 75 = .ok (.iload_n 3, 1) := by decide +kernel
theorem dX10_move_76 : decode cX10_move 76 = .ok (.iload_n 2, 1) := by decide +kernel
theorem dX10_move_77 : decode cX10_move 77 = .ok (.isub, 1) := by decide +kernel
theorem dX10_move_78 : decode cX10_move 78 = .ok (.istore 4, 2) := by decide +kernel
theorem dX10_move_10 : decode cX10_move 10 = .ok (.aload_n 0, 1) := by decide +kernel
theorem dX10_move_11 : decode cX10_move 11 = .ok (.getfield 219, 3) := by decide +kernel
theorem dX10_move_14 : decode cX10_move 14 = .ok (.iconst 1, 1) := by decide +kernel
theorem dX10_move_15 : decode cX10_move 15 = .ok (.isub, 1) := by decide +kernel
theorem dX10_move_16 : decode cX10_move 16 = .ok (.istore 4, 2) := by decide +kernel
set_option maxHeartbeats 4000000 in
set_option maxRecDepth 100000 in
theorem m_lines (l : Launch) (D : va_G) (tA : Nat → ClassId) (b : Nat) (i F : Nat → Nat → Int32) (G : Nat → Nat → Int64)  (hsz : 0 ≤ (i 78 12).toInt ∧ (i 78 12).toInt ≤ 600) : xMI l yX10_lines cX10_lines 3 (some .int) 0 0 D tA b 78 52 i F G [.ref (b + 78)] (fun r u => u = (i, F, G) ∧ (0 ≤ r.toInt ∧ r.toInt ≤ c10 (F 85) (Int32.toNatClampNeg (i 78 12)) + 1 ∧ r.toInt ≤ 601)) := by
  refine xstart RX10 rfl (by decide) (Nat.le_of_ble_eq_true rfl) ?_
  intro p e s m below meth c ls C0 hr hH hS hl
  have hl : lv_has ls 3 [(0, .ref (b + 78))] := hl
  have L4 : ∀ (d : Nat) (k y : Int32) (H : Heap) (locs : List Loc) (ls : Array Slot), (0 ≤ k.toInt ∧ k.toInt ≤ (i 78 12).toInt) → ((i 78 12).toInt - k.toInt ≤ d) → (y.toInt = c10 (F 85) (Int32.toNatClampNeg k)) → Hd D tA b 78 52 zz i F G H → va_S (xA b 78 52) s.heap H locs → lv_has ls 3 [(2, .int k), (1, .int y), (0, .ref (b + 78))] → W p l e (xR 0 0) s m ([.ref (b + 78)] : List Value).toArray below meth c H locs 0 0 (MQ below (va_Qi (fun r u => u = (i, F, G) ∧ (0 ≤ r.toInt ∧ r.toInt ≤ c10 (F 85) (Int32.toNatClampNeg (i 78 12)) + 1 ∧ r.toInt ≤ 601)) (xB D tA b 78 52 zz) (xA b 78 52)) ([.ref (b + 78)] : List Value).toArray s 0 0 (xA b 78 52)) (F0 m 4 ls []) := by
    intro d
    induction d with
    | zero =>
      intro k y H locs ls h1 h2 h3 hH hS hl
      have rg_k := fb_rng k
      have rg_y := fb_rng y
      have hcK := clI (x := k) (by omega)
      have hcle := c10_le (F 85) (Int32.toNatClampNeg k)
      refine lv_iload_n (pc := 4) C0.1 C0.2.1 dX10_lines_4 rfl (lv_at hl 0 rfl) ?_
      refine lv_aload_n (pc := 5) C0.1 C0.2.1 dX10_lines_5 rfl (lv_at hl 2 rfl) ?_
      refine xget (pc := 6) C0 hH 78 12 clX10 ⟨Nat.le_of_ble_eq_true rfl, Nat.le_of_ble_eq_true rfl⟩ ⟨rfl, rfl⟩ (Nat.le_of_ble_eq_true rfl) fl_X10_219 (v := .int (i 78 12)) rfl dX10_lines_6 ?_
      refine lv_icmp_ge (pc := 9) (tgt := 37) C0.1 C0.2.1 dX10_lines_9 (by decide) (fun _ => ?_) (fun c => absurd (Int32.le_iff_toInt_le.mpr (by omega)) c)
      refine lv_aload_n (pc := 37) C0.1 C0.2.1 dX10_lines_37 rfl (lv_at hl 2 rfl) ?_
      refine xget (pc := 38) C0 hH 78 12 clX10 ⟨Nat.le_of_ble_eq_true rfl, Nat.le_of_ble_eq_true rfl⟩ ⟨rfl, rfl⟩ (Nat.le_of_ble_eq_true rfl) fl_X10_219 (v := .int (i 78 12)) rfl dX10_lines_38 ?_
      refine lv_if_le (pc := 41) (tgt := 66) C0.1 C0.2.1 dX10_lines_41 (by decide) (fun c201 => ?_) (fun c201 => ?_)
      · have : Int32.toInt 0 = 0 := rfl
        have c201 := Int32.le_iff_toInt_le.mp c201
        refine lv_iload_n (pc := 66) C0.1 C0.2.1 dX10_lines_66 rfl (lv_at hl 1 rfl) ?_
        exact xiret (pc := 67) C0 hr hH hS dX10_lines_67 ⟨rfl, by have hcS := clI (x := i 78 12) (by omega); have hcl := c10_le (F 85) (Int32.toNatClampNeg (i 78 12)); rw [show Int32.toNatClampNeg k = Int32.toNatClampNeg (i 78 12) from by omega] at h3; omega⟩
      · have : Int32.toInt 0 = 0 := rfl
        have c201 : ¬ _ := fun q => c201 (Int32.le_iff_toInt_le.mpr q)
        refine lv_aload_n (pc := 44) C0.1 C0.2.1 dX10_lines_44 rfl (lv_at hl 2 rfl) ?_
        refine xget (pc := 45) C0 hH 78 11 clX10 ⟨Nat.le_of_ble_eq_true rfl, Nat.le_of_ble_eq_true rfl⟩ ⟨rfl, rfl⟩ (Nat.le_of_ble_eq_true rfl) fl_X10_29 (v := .ref (b + 85)) rfl dX10_lines_45 ?_
        refine lv_aload_n (pc := 48) C0.1 C0.2.1 dX10_lines_48 rfl (lv_at hl 2 rfl) ?_
        refine xget (pc := 49) C0 hH 78 12 clX10 ⟨Nat.le_of_ble_eq_true rfl, Nat.le_of_ble_eq_true rfl⟩ ⟨rfl, rfl⟩ (Nat.le_of_ble_eq_true rfl) fl_X10_219 (v := .int (i 78 12)) rfl dX10_lines_49 ?_
        refine lv_iconst (pc := 52) (v := 1) C0.1 C0.2.1 dX10_lines_52 (by decide) ?_
        have : Int32.toInt 1 = 1 := rfl
        refine lv_isub (pc := 53) C0.1 C0.2.1 dX10_lines_53 ?_
        refine lv_topi (fun x202 ex202 => ?_)
        have hx202 : Int32.toInt x202 = Int32.toInt (i 78 12) - Int32.toInt 1 := by rw [ex202]; exact fb_subI (by omega) (by omega)
        refine xbald (pc := 54) (N := 600) C0 hH 85 ⟨Nat.le_of_ble_eq_true rfl, Nat.le_of_ble_eq_true rfl⟩ ⟨rfl, rfl⟩ (vI (by omega) (by omega)) dX10_lines_54 ?_
        refine lv_bipush (pc := 55) (v := 10) C0.1 C0.2.1 dX10_lines_55 (by decide) ?_
        refine lv_icmp_eq (pc := 57) (tgt := 66) C0.1 C0.2.1 dX10_lines_57 (by decide) (fun c203 => ?_) (fun c203 => ?_)
        · have : Int32.toInt 10 = 10 := rfl
          have c203 := congrArg Int32.toInt c203
          refine lv_iload_n (pc := 66) C0.1 C0.2.1 dX10_lines_66 rfl (lv_at hl 1 rfl) ?_
          exact xiret (pc := 67) C0 hr hH hS dX10_lines_67 ⟨rfl, by have hcS := clI (x := i 78 12) (by omega); have hcl := c10_le (F 85) (Int32.toNatClampNeg (i 78 12)); rw [show Int32.toNatClampNeg k = Int32.toNatClampNeg (i 78 12) from by omega] at h3; omega⟩
        · have : Int32.toInt 10 = 10 := rfl
          have c203 : ¬ _ := fun q => c203 (Int32.toInt_inj.mp q)
          refine lv_iload_n (pc := 60) C0.1 C0.2.1 dX10_lines_60 rfl (lv_at hl 1 rfl) ?_
          refine lv_iconst (pc := 61) (v := 1) C0.1 C0.2.1 dX10_lines_61 (by decide) ?_
          have : Int32.toInt 1 = 1 := rfl
          refine lv_iadd (pc := 62) C0.1 C0.2.1 dX10_lines_62 ?_
          refine lv_topi (fun x204 ex204 => ?_)
          have hx204 : Int32.toInt x204 = Int32.toInt y + Int32.toInt 1 := by rw [ex204]; exact fb_addI (by omega) (by omega)
          refine lv_goto (pc := 63) (tgt := 67) C0.1 C0.2.1 dX10_lines_63 (by decide) ?_
          exact xiret (pc := 67) C0 hr hH hS dX10_lines_67 ⟨rfl, by have hcS := clI (x := i 78 12) (by omega); have hcl := c10_le (F 85) (Int32.toNatClampNeg (i 78 12)); rw [show Int32.toNatClampNeg k = Int32.toNatClampNeg (i 78 12) from by omega] at h3; omega⟩
    | succ d ih4 =>
      intro k y H locs ls h1 h2 h3 hH hS hl
      have rg_k := fb_rng k
      have rg_y := fb_rng y
      have hcK := clI (x := k) (by omega)
      have hcle := c10_le (F 85) (Int32.toNatClampNeg k)
      refine lv_iload_n (pc := 4) C0.1 C0.2.1 dX10_lines_4 rfl (lv_at hl 0 rfl) ?_
      refine lv_aload_n (pc := 5) C0.1 C0.2.1 dX10_lines_5 rfl (lv_at hl 2 rfl) ?_
      refine xget (pc := 6) C0 hH 78 12 clX10 ⟨Nat.le_of_ble_eq_true rfl, Nat.le_of_ble_eq_true rfl⟩ ⟨rfl, rfl⟩ (Nat.le_of_ble_eq_true rfl) fl_X10_219 (v := .int (i 78 12)) rfl dX10_lines_6 ?_
      refine lv_icmp_ge (pc := 9) (tgt := 37) C0.1 C0.2.1 dX10_lines_9 (by decide) (fun c201 => ?_) (fun c201 => ?_)
      · have c201 := Int32.le_iff_toInt_le.mp c201
        refine lv_aload_n (pc := 37) C0.1 C0.2.1 dX10_lines_37 rfl (lv_at hl 2 rfl) ?_
        refine xget (pc := 38) C0 hH 78 12 clX10 ⟨Nat.le_of_ble_eq_true rfl, Nat.le_of_ble_eq_true rfl⟩ ⟨rfl, rfl⟩ (Nat.le_of_ble_eq_true rfl) fl_X10_219 (v := .int (i 78 12)) rfl dX10_lines_38 ?_
        refine lv_if_le (pc := 41) (tgt := 66) C0.1 C0.2.1 dX10_lines_41 (by decide) (fun c202 => ?_) (fun c202 => ?_)
        · have : Int32.toInt 0 = 0 := rfl
          have c202 := Int32.le_iff_toInt_le.mp c202
          refine lv_iload_n (pc := 66) C0.1 C0.2.1 dX10_lines_66 rfl (lv_at hl 1 rfl) ?_
          exact xiret (pc := 67) C0 hr hH hS dX10_lines_67 ⟨rfl, by have hcS := clI (x := i 78 12) (by omega); have hcl := c10_le (F 85) (Int32.toNatClampNeg (i 78 12)); rw [show Int32.toNatClampNeg k = Int32.toNatClampNeg (i 78 12) from by omega] at h3; omega⟩
        · have : Int32.toInt 0 = 0 := rfl
          have c202 : ¬ _ := fun q => c202 (Int32.le_iff_toInt_le.mpr q)
          refine lv_aload_n (pc := 44) C0.1 C0.2.1 dX10_lines_44 rfl (lv_at hl 2 rfl) ?_
          refine xget (pc := 45) C0 hH 78 11 clX10 ⟨Nat.le_of_ble_eq_true rfl, Nat.le_of_ble_eq_true rfl⟩ ⟨rfl, rfl⟩ (Nat.le_of_ble_eq_true rfl) fl_X10_29 (v := .ref (b + 85)) rfl dX10_lines_45 ?_
          refine lv_aload_n (pc := 48) C0.1 C0.2.1 dX10_lines_48 rfl (lv_at hl 2 rfl) ?_
          refine xget (pc := 49) C0 hH 78 12 clX10 ⟨Nat.le_of_ble_eq_true rfl, Nat.le_of_ble_eq_true rfl⟩ ⟨rfl, rfl⟩ (Nat.le_of_ble_eq_true rfl) fl_X10_219 (v := .int (i 78 12)) rfl dX10_lines_49 ?_
          refine lv_iconst (pc := 52) (v := 1) C0.1 C0.2.1 dX10_lines_52 (by decide) ?_
          have : Int32.toInt 1 = 1 := rfl
          refine lv_isub (pc := 53) C0.1 C0.2.1 dX10_lines_53 ?_
          refine lv_topi (fun x203 ex203 => ?_)
          have hx203 : Int32.toInt x203 = Int32.toInt (i 78 12) - Int32.toInt 1 := by rw [ex203]; exact fb_subI (by omega) (by omega)
          refine xbald (pc := 54) (N := 600) C0 hH 85 ⟨Nat.le_of_ble_eq_true rfl, Nat.le_of_ble_eq_true rfl⟩ ⟨rfl, rfl⟩ (vI (by omega) (by omega)) dX10_lines_54 ?_
          refine lv_bipush (pc := 55) (v := 10) C0.1 C0.2.1 dX10_lines_55 (by decide) ?_
          refine lv_icmp_eq (pc := 57) (tgt := 66) C0.1 C0.2.1 dX10_lines_57 (by decide) (fun c204 => ?_) (fun c204 => ?_)
          · have : Int32.toInt 10 = 10 := rfl
            have c204 := congrArg Int32.toInt c204
            refine lv_iload_n (pc := 66) C0.1 C0.2.1 dX10_lines_66 rfl (lv_at hl 1 rfl) ?_
            exact xiret (pc := 67) C0 hr hH hS dX10_lines_67 ⟨rfl, by have hcS := clI (x := i 78 12) (by omega); have hcl := c10_le (F 85) (Int32.toNatClampNeg (i 78 12)); rw [show Int32.toNatClampNeg k = Int32.toNatClampNeg (i 78 12) from by omega] at h3; omega⟩
          · have : Int32.toInt 10 = 10 := rfl
            have c204 : ¬ _ := fun q => c204 (Int32.toInt_inj.mp q)
            refine lv_iload_n (pc := 60) C0.1 C0.2.1 dX10_lines_60 rfl (lv_at hl 1 rfl) ?_
            refine lv_iconst (pc := 61) (v := 1) C0.1 C0.2.1 dX10_lines_61 (by decide) ?_
            have : Int32.toInt 1 = 1 := rfl
            refine lv_iadd (pc := 62) C0.1 C0.2.1 dX10_lines_62 ?_
            refine lv_topi (fun x205 ex205 => ?_)
            have hx205 : Int32.toInt x205 = Int32.toInt y + Int32.toInt 1 := by rw [ex205]; exact fb_addI (by omega) (by omega)
            refine lv_goto (pc := 63) (tgt := 67) C0.1 C0.2.1 dX10_lines_63 (by decide) ?_
            exact xiret (pc := 67) C0 hr hH hS dX10_lines_67 ⟨rfl, by have hcS := clI (x := i 78 12) (by omega); have hcl := c10_le (F 85) (Int32.toNatClampNeg (i 78 12)); rw [show Int32.toNatClampNeg k = Int32.toNatClampNeg (i 78 12) from by omega] at h3; omega⟩
      · have c201 : ¬ _ := fun q => c201 (Int32.le_iff_toInt_le.mpr q)
        refine lv_iload_n (pc := 12) C0.1 C0.2.1 dX10_lines_12 rfl (lv_at hl 1 rfl) ?_
        refine lv_aload_n (pc := 13) C0.1 C0.2.1 dX10_lines_13 rfl (lv_at hl 2 rfl) ?_
        refine xget (pc := 14) C0 hH 78 11 clX10 ⟨Nat.le_of_ble_eq_true rfl, Nat.le_of_ble_eq_true rfl⟩ ⟨rfl, rfl⟩ (Nat.le_of_ble_eq_true rfl) fl_X10_29 (v := .ref (b + 85)) rfl dX10_lines_14 ?_
        refine lv_iload_n (pc := 17) C0.1 C0.2.1 dX10_lines_17 rfl (lv_at hl 0 rfl) ?_
        refine xbald (pc := 18) (N := 600) C0 hH 85 ⟨Nat.le_of_ble_eq_true rfl, Nat.le_of_ble_eq_true rfl⟩ ⟨rfl, rfl⟩ (vI (by omega) (by omega)) dX10_lines_18 ?_
        refine lv_bipush (pc := 19) (v := 10) C0.1 C0.2.1 dX10_lines_19 (by decide) ?_
        refine lv_icmp_ne (pc := 21) (tgt := 28) C0.1 C0.2.1 dX10_lines_21 (by decide) (fun c206 => ?_) (fun c206 => ?_)
        · have : Int32.toInt 10 = 10 := rfl
          have c206 : ¬ _ := fun q => c206 (Int32.toInt_inj.mp q)
          refine lv_iconst (pc := 28) (v := 0) C0.1 C0.2.1 dX10_lines_28 (by decide) ?_
          have : Int32.toInt 0 = 0 := rfl
          refine lv_iadd (pc := 29) C0.1 C0.2.1 dX10_lines_29 ?_
          refine lv_topi (fun x207 ex207 => ?_)
          have hx207 : Int32.toInt x207 = Int32.toInt y + Int32.toInt 0 := by rw [ex207]; exact fb_addI (by omega) (by omega)
          refine lv_istore_n (pc := 30) (lv' := [(1, .int x207), (2, .int k), (0, .ref (b + 78))]) C0.1 C0.2.1 dX10_lines_30 rfl hl (by decide) rfl (fun ls hl => ?_)
          obtain ⟨x208, ex208⟩ : ∃ y_ : Int32, y_ = k + 1 := ⟨_, rfl⟩
          have : Int32.toInt 1 = 1 := rfl
          have hx208 : Int32.toInt x208 = Int32.toInt k + Int32.toInt 1 := by rw [ex208]; exact fb_addI (by omega) (by omega)
          refine lv_iinc (pc := 31) (v := x208) (lv' := [(2, .int x208), (1, .int x207), (0, .ref (b + 78))]) C0.1 C0.2.1 dX10_lines_31 hl (k := 1) rfl (by rw [ex208]; rfl) (by decide) rfl (fun ls hl => ?_)
          refine lv_goto (pc := 34) (tgt := 4) C0.1 C0.2.1 dX10_lines_34 (by decide) ?_
          exact ih4 x208 x207 _ _ _ (by omega) (by omega) (by have hcN := clI (x := x208) (by omega); rw [show Int32.toNatClampNeg x208 = Int32.toNatClampNeg k + 1 from by omega]; first | rw [c10_1 (by first | assumption | exact Int32.toInt_inj.mp (by assumption))]; omega | rw [c10_0 (by first | assumption | exact fun q => absurd (congrArg Int32.toInt q) (by assumption))]; omega) hH hS (lv_sub hl [0, 1, 2] rfl)
        · have : Int32.toInt 10 = 10 := rfl
          have c206 := congrArg Int32.toInt c206
          refine lv_iconst (pc := 24) (v := 1) C0.1 C0.2.1 dX10_lines_24 (by decide) ?_
          refine lv_goto (pc := 25) (tgt := 29) C0.1 C0.2.1 dX10_lines_25 (by decide) ?_
          have : Int32.toInt 1 = 1 := rfl
          refine lv_iadd (pc := 29) C0.1 C0.2.1 dX10_lines_29 ?_
          refine lv_topi (fun x209 ex209 => ?_)
          have hx209 : Int32.toInt x209 = Int32.toInt y + Int32.toInt 1 := by rw [ex209]; exact fb_addI (by omega) (by omega)
          refine lv_istore_n (pc := 30) (lv' := [(1, .int x209), (2, .int k), (0, .ref (b + 78))]) C0.1 C0.2.1 dX10_lines_30 rfl hl (by decide) rfl (fun ls hl => ?_)
          obtain ⟨x210, ex210⟩ : ∃ y_ : Int32, y_ = k + 1 := ⟨_, rfl⟩
          have : Int32.toInt 1 = 1 := rfl
          have hx210 : Int32.toInt x210 = Int32.toInt k + Int32.toInt 1 := by rw [ex210]; exact fb_addI (by omega) (by omega)
          refine lv_iinc (pc := 31) (v := x210) (lv' := [(2, .int x210), (1, .int x209), (0, .ref (b + 78))]) C0.1 C0.2.1 dX10_lines_31 hl (k := 1) rfl (by rw [ex210]; rfl) (by decide) rfl (fun ls hl => ?_)
          refine lv_goto (pc := 34) (tgt := 4) C0.1 C0.2.1 dX10_lines_34 (by decide) ?_
          exact ih4 x210 x209 _ _ _ (by omega) (by omega) (by have hcN := clI (x := x210) (by omega); rw [show Int32.toNatClampNeg x210 = Int32.toNatClampNeg k + 1 from by omega]; first | rw [c10_1 (by first | assumption | exact Int32.toInt_inj.mp (by assumption))]; omega | rw [c10_0 (by first | assumption | exact fun q => absurd (congrArg Int32.toInt q) (by assumption))]; omega) hH hS (lv_sub hl [0, 1, 2] rfl)
  refine lv_iconst (pc := 0) (v := 0) C0.1 C0.2.1 dX10_lines_0 (by decide) ?_
  refine lv_istore_n (pc := 1) (lv' := [(1, .int 0), (0, .ref (b + 78))]) C0.1 C0.2.1 dX10_lines_1 rfl hl (by decide) rfl (fun ls hl => ?_)
  refine lv_iconst (pc := 2) (v := 0) C0.1 C0.2.1 dX10_lines_2 (by decide) ?_
  refine lv_istore_n (pc := 3) (lv' := [(2, .int 0), (1, .int 0), (0, .ref (b + 78))]) C0.1 C0.2.1 dX10_lines_3 rfl hl (by decide) rfl (fun ls hl => ?_)
  exact L4 600 0 0 _ _ _ (by have : Int32.toInt 0 = 0 := rfl; omega) (by have : Int32.toInt 0 = 0 := rfl; omega) rfl hH hS (lv_sub hl [0, 1, 2] rfl)
set_option maxHeartbeats 4000000 in
set_option maxRecDepth 100000 in
theorem m_lineAt (l : Launch) (D : va_G) (tA : Nat → ClassId) (b : Nat) (i F : Nat → Nat → Int32) (G : Nat → Nat → Int64) (x : Int32) (hsz : 0 ≤ (i 78 12).toInt ∧ (i 78 12).toInt ≤ 600) (hln : x.toInt ≤ c10 (F 85) (Int32.toNatClampNeg (i 78 12))) : xMI l yX10_lineAt cX10_lineAt 4 (some .int) 0 0 D tA b 78 52 i F G [.ref (b + 78), .int x] (fun r u => u = (i, F, G) ∧ (0 ≤ r.toInt ∧ r.toInt ≤ (i 78 12).toInt) ∧ LA (F 85) x.toInt (Int32.toNatClampNeg r)) := by
  refine xstart RX10 rfl (by decide) (Nat.le_of_ble_eq_true rfl) ?_
  intro p e s m below meth c ls C0 hr hH hS hl
  have hl : lv_has ls 4 [(0, .ref (b + 78)), (1, .int x)] := hl
  have rg_x := fb_rng x
  have L4 : ∀ (d : Nat) (k y : Int32) (H : Heap) (locs : List Loc) (ls : Array Slot), (0 ≤ k.toInt ∧ k.toInt ≤ (i 78 12).toInt) → ((i 78 12).toInt - k.toInt ≤ d) → (y.toInt = c10 (F 85) (Int32.toNatClampNeg k)) → (y.toInt < x.toInt ∨ LA (F 85) x.toInt (Int32.toNatClampNeg k)) → Hd D tA b 78 52 zz i F G H → va_S (xA b 78 52) s.heap H locs → lv_has ls 4 [(3, .int y), (2, .int k), (0, .ref (b + 78)), (1, .int x)] → W p l e (xR 0 0) s m ([.ref (b + 78), .int x] : List Value).toArray below meth c H locs 0 0 (MQ below (va_Qi (fun r u => u = (i, F, G) ∧ (0 ≤ r.toInt ∧ r.toInt ≤ (i 78 12).toInt) ∧ LA (F 85) x.toInt (Int32.toNatClampNeg r)) (xB D tA b 78 52 zz) (xA b 78 52)) ([.ref (b + 78), .int x] : List Value).toArray s 0 0 (xA b 78 52)) (F0 m 4 ls []) := by
    intro d
    induction d with
    | zero =>
      intro k y H locs ls h1 h2 h3 h4 hH hS hl
      have rg_k := fb_rng k
      have rg_y := fb_rng y
      have hcK := clI (x := k) (by omega)
      have hcle := c10_le (F 85) (Int32.toNatClampNeg k)
      have hcS := clI (x := i 78 12) (by omega)
      have hlt : y.toInt < x.toInt → k.toInt < (i 78 12).toInt := fun q => by
        rcases Nat.lt_or_ge (Int32.toNatClampNeg k) (Int32.toNatClampNeg (i 78 12)) with w | w
        · omega
        · have := c10_mono (F 85) w; omega
      refine lv_iload_n (pc := 4) C0.1 C0.2.1 dX10_lineAt_4 rfl (lv_at hl 0 rfl) ?_
      refine lv_iload_n (pc := 5) C0.1 C0.2.1 dX10_lineAt_5 rfl (lv_at hl 3 rfl) ?_
      have hge : ¬ y.toInt < x.toInt := fun q => absurd (hlt q) (by omega)
      refine lv_icmp_ge (pc := 6) (tgt := 34) C0.1 C0.2.1 dX10_lineAt_6 (by decide) (fun _ => ?_) (fun c => absurd (Int32.le_iff_toInt_le.mpr (by omega)) c)
      refine lv_iload_n (pc := 34) C0.1 C0.2.1 dX10_lineAt_34 rfl (lv_at hl 1 rfl) ?_
      exact xiret (pc := 35) C0 hr hH hS dX10_lineAt_35 ⟨rfl, h1, h4.resolve_left (by omega)⟩
    | succ d ih4 =>
      intro k y H locs ls h1 h2 h3 h4 hH hS hl
      have rg_k := fb_rng k
      have rg_y := fb_rng y
      have hcK := clI (x := k) (by omega)
      have hcle := c10_le (F 85) (Int32.toNatClampNeg k)
      have hcS := clI (x := i 78 12) (by omega)
      have hlt : y.toInt < x.toInt → k.toInt < (i 78 12).toInt := fun q => by
        rcases Nat.lt_or_ge (Int32.toNatClampNeg k) (Int32.toNatClampNeg (i 78 12)) with w | w
        · omega
        · have := c10_mono (F 85) w; omega
      refine lv_iload_n (pc := 4) C0.1 C0.2.1 dX10_lineAt_4 rfl (lv_at hl 0 rfl) ?_
      refine lv_iload_n (pc := 5) C0.1 C0.2.1 dX10_lineAt_5 rfl (lv_at hl 3 rfl) ?_
      refine lv_icmp_ge (pc := 6) (tgt := 34) C0.1 C0.2.1 dX10_lineAt_6 (by decide) (fun c201 => ?_) (fun c201 => ?_)
      · have c201 := Int32.le_iff_toInt_le.mp c201
        refine lv_iload_n (pc := 34) C0.1 C0.2.1 dX10_lineAt_34 rfl (lv_at hl 1 rfl) ?_
        exact xiret (pc := 35) C0 hr hH hS dX10_lineAt_35 ⟨rfl, h1, h4.resolve_left (by omega)⟩
      · have c201 : ¬ _ := fun q => c201 (Int32.le_iff_toInt_le.mpr q)
        have hlk := hlt (by omega)
        refine lv_iload_n (pc := 9) C0.1 C0.2.1 dX10_lineAt_9 rfl (lv_at hl 0 rfl) ?_
        refine lv_aload_n (pc := 10) C0.1 C0.2.1 dX10_lineAt_10 rfl (lv_at hl 2 rfl) ?_
        refine xget (pc := 11) C0 hH 78 11 clX10 ⟨Nat.le_of_ble_eq_true rfl, Nat.le_of_ble_eq_true rfl⟩ ⟨rfl, rfl⟩ (Nat.le_of_ble_eq_true rfl) fl_X10_29 (v := .ref (b + 85)) rfl dX10_lineAt_11 ?_
        refine lv_iload_n (pc := 14) C0.1 C0.2.1 dX10_lineAt_14 rfl (lv_at hl 1 rfl) ?_
        refine xbald (pc := 15) (N := 600) C0 hH 85 ⟨Nat.le_of_ble_eq_true rfl, Nat.le_of_ble_eq_true rfl⟩ ⟨rfl, rfl⟩ (vI (by omega) (by omega)) dX10_lineAt_15 ?_
        refine lv_bipush (pc := 16) (v := 10) C0.1 C0.2.1 dX10_lineAt_16 (by decide) ?_
        refine lv_icmp_ne (pc := 18) (tgt := 25) C0.1 C0.2.1 dX10_lineAt_18 (by decide) (fun c202 => ?_) (fun c202 => ?_)
        · have : Int32.toInt 10 = 10 := rfl
          have c202 : ¬ _ := fun q => c202 (Int32.toInt_inj.mp q)
          refine lv_iconst (pc := 25) (v := 0) C0.1 C0.2.1 dX10_lineAt_25 (by decide) ?_
          have : Int32.toInt 0 = 0 := rfl
          refine lv_iadd (pc := 26) C0.1 C0.2.1 dX10_lineAt_26 ?_
          refine lv_topi (fun x203 ex203 => ?_)
          have hx203 : Int32.toInt x203 = Int32.toInt y + Int32.toInt 0 := by rw [ex203]; exact fb_addI (by omega) (by omega)
          refine lv_istore_n (pc := 27) (lv' := [(3, .int x203), (2, .int k), (0, .ref (b + 78)), (1, .int x)]) C0.1 C0.2.1 dX10_lineAt_27 rfl hl (by decide) rfl (fun ls hl => ?_)
          obtain ⟨x204, ex204⟩ : ∃ y_ : Int32, y_ = k + 1 := ⟨_, rfl⟩
          have : Int32.toInt 1 = 1 := rfl
          have hx204 : Int32.toInt x204 = Int32.toInt k + Int32.toInt 1 := by rw [ex204]; exact fb_addI (by omega) (by omega)
          refine lv_iinc (pc := 28) (v := x204) (lv' := [(2, .int x204), (3, .int x203), (0, .ref (b + 78)), (1, .int x)]) C0.1 C0.2.1 dX10_lineAt_28 hl (k := 1) rfl (by rw [ex204]; rfl) (by decide) rfl (fun ls hl => ?_)
          refine lv_goto (pc := 31) (tgt := 4) C0.1 C0.2.1 dX10_lineAt_31 (by decide) ?_
          exact ih4 x204 x203 _ _ _ (by omega) (by omega) (by have hcN := clI (x := x204) (by omega); rw [show Int32.toNatClampNeg x204 = Int32.toNatClampNeg k + 1 from by omega]; first | rw [c10_1 (by first | assumption | exact Int32.toInt_inj.mp (by assumption))]; omega | rw [c10_0 (by first | assumption | exact fun q => absurd (congrArg Int32.toInt q) (by assumption))]; omega) (by have hcN := clI (x := x204) (by omega); have eN : Int32.toNatClampNeg x204 = Int32.toNatClampNeg k + 1 := (by omega); exact (if q : Int32.toInt x203 < x.toInt then Or.inl q else Or.inr (by first | (exfalso; omega) | exact Or.inr ⟨by omega, Int32.toNatClampNeg k, eN, by first | assumption | exact Int32.toInt_inj.mp (by assumption), by rw [eN, c10_1 (by first | assumption | exact Int32.toInt_inj.mp (by assumption))]; omega⟩))) hH hS (lv_sub hl [1, 0, 2, 3] rfl)
        · have : Int32.toInt 10 = 10 := rfl
          have c202 := congrArg Int32.toInt c202
          refine lv_iconst (pc := 21) (v := 1) C0.1 C0.2.1 dX10_lineAt_21 (by decide) ?_
          refine lv_goto (pc := 22) (tgt := 26) C0.1 C0.2.1 dX10_lineAt_22 (by decide) ?_
          have : Int32.toInt 1 = 1 := rfl
          refine lv_iadd (pc := 26) C0.1 C0.2.1 dX10_lineAt_26 ?_
          refine lv_topi (fun x205 ex205 => ?_)
          have hx205 : Int32.toInt x205 = Int32.toInt y + Int32.toInt 1 := by rw [ex205]; exact fb_addI (by omega) (by omega)
          refine lv_istore_n (pc := 27) (lv' := [(3, .int x205), (2, .int k), (0, .ref (b + 78)), (1, .int x)]) C0.1 C0.2.1 dX10_lineAt_27 rfl hl (by decide) rfl (fun ls hl => ?_)
          obtain ⟨x206, ex206⟩ : ∃ y_ : Int32, y_ = k + 1 := ⟨_, rfl⟩
          have : Int32.toInt 1 = 1 := rfl
          have hx206 : Int32.toInt x206 = Int32.toInt k + Int32.toInt 1 := by rw [ex206]; exact fb_addI (by omega) (by omega)
          refine lv_iinc (pc := 28) (v := x206) (lv' := [(2, .int x206), (3, .int x205), (0, .ref (b + 78)), (1, .int x)]) C0.1 C0.2.1 dX10_lineAt_28 hl (k := 1) rfl (by rw [ex206]; rfl) (by decide) rfl (fun ls hl => ?_)
          refine lv_goto (pc := 31) (tgt := 4) C0.1 C0.2.1 dX10_lineAt_31 (by decide) ?_
          exact ih4 x206 x205 _ _ _ (by omega) (by omega) (by have hcN := clI (x := x206) (by omega); rw [show Int32.toNatClampNeg x206 = Int32.toNatClampNeg k + 1 from by omega]; first | rw [c10_1 (by first | assumption | exact Int32.toInt_inj.mp (by assumption))]; omega | rw [c10_0 (by first | assumption | exact fun q => absurd (congrArg Int32.toInt q) (by assumption))]; omega) (by have hcN := clI (x := x206) (by omega); have eN : Int32.toNatClampNeg x206 = Int32.toNatClampNeg k + 1 := (by omega); exact (if q : Int32.toInt x205 < x.toInt then Or.inl q else Or.inr (by first | (exfalso; omega) | exact Or.inr ⟨by omega, Int32.toNatClampNeg k, eN, by first | assumption | exact Int32.toInt_inj.mp (by assumption), by rw [eN, c10_1 (by first | assumption | exact Int32.toInt_inj.mp (by assumption))]; omega⟩))) hH hS (lv_sub hl [1, 0, 2, 3] rfl)
  refine lv_iconst (pc := 0) (v := 0) C0.1 C0.2.1 dX10_lineAt_0 (by decide) ?_
  refine lv_istore_n (pc := 1) (lv' := [(2, .int 0), (0, .ref (b + 78)), (1, .int x)]) C0.1 C0.2.1 dX10_lineAt_1 rfl hl (by decide) rfl (fun ls hl => ?_)
  refine lv_iconst (pc := 2) (v := 0) C0.1 C0.2.1 dX10_lineAt_2 (by decide) ?_
  refine lv_istore_n (pc := 3) (lv' := [(3, .int 0), (2, .int 0), (0, .ref (b + 78)), (1, .int x)]) C0.1 C0.2.1 dX10_lineAt_3 rfl hl (by decide) rfl (fun ls hl => ?_)
  exact L4 600 0 0 _ _ _ (by have : Int32.toInt 0 = 0 := rfl; omega) (by have : Int32.toInt 0 = 0 := rfl; omega) rfl (if q : 0 < x.toInt then Or.inl q else Or.inr (Or.inl ⟨by omega, rfl⟩)) hH hS (lv_sub hl [0, 1, 2, 3] rfl)
set_option maxHeartbeats 4000000 in
set_option maxRecDepth 100000 in
theorem m_mayShift (l : Launch) (D : va_G) (tA : Nat → ClassId) (b : Nat) (i F : Nat → Nat → Int32) (G : Nat → Nat → Int64) (x y : Int32) (hsz : 0 ≤ (i 78 12).toInt ∧ (i 78 12).toInt ≤ 600) (hln : x.toInt ≤ c10 (F 85) (Int32.toNatClampNeg (i 78 12))) (hy : -40 ≤ y.toInt ∧ y.toInt ≤ 40) : xMI l yX10_mayShift cX10_mayShift 5 (some .int) 1 23 D tA b 78 52 i F G [.ref (b + 78), .int x, .int y] (fun r u => u = (i, F, G) ∧ (0 ≤ r.toInt → ∃ r0 : Int32, (0 ≤ r0.toInt ∧ r0.toInt ≤ (i 78 12).toInt) ∧ LA (F 85) x.toInt (Int32.toNatClampNeg r0) ∧ (i 78 12).toInt + y.toInt ≤ 600 ∧ (y.toInt < 0 → (r0.toInt - y.toInt ≤ (i 78 12).toInt ∧ ∀ j : Nat, (j : Int) < - y.toInt → F 85 (Int32.toNatClampNeg r0 + j) = 32)))) := by
  refine xstart RX10 rfl (by decide) (Nat.le_of_ble_eq_true rfl) ?_
  intro p e s m below meth c ls C0 hr hH hS hl
  have hl : lv_has ls 5 [(0, .ref (b + 78)), (1, .int x), (2, .int y)] := hl
  have rg_x := fb_rng x
  have rg_y := fb_rng y
  have L9 : ∀ (d : Nat) (k q9 : Int32) (H : Heap) (locs : List Loc) (ls : Array Slot), (0 ≤ k.toInt ∧ k.toInt ≤ 40) → (- y.toInt - k.toInt ≤ d) → (0 ≤ q9.toInt ∧ q9.toInt ≤ (i 78 12).toInt) → (k.toInt = 0 ∨ q9.toInt + k.toInt ≤ (i 78 12).toInt) → (∀ j : Nat, (j : Int) < k.toInt → F 85 (Int32.toNatClampNeg q9 + j) = 32) → (LA (F 85) x.toInt (Int32.toNatClampNeg q9)) → (k.toInt ≤ 0 ∨ k.toInt ≤ - y.toInt) → Hd D tA b 78 52 zz i F G H → va_S (xA b 78 52) s.heap H locs → lv_has ls 5 [(4, .int k), (3, .int q9), (0, .ref (b + 78)), (1, .int x), (2, .int y)] → W p l e (xR 1 23) s m ([.ref (b + 78), .int x, .int y] : List Value).toArray below meth c H locs 0 0 (MQ below (va_Qi (fun r u => u = (i, F, G) ∧ (0 ≤ r.toInt → ∃ r0 : Int32, (0 ≤ r0.toInt ∧ r0.toInt ≤ (i 78 12).toInt) ∧ LA (F 85) x.toInt (Int32.toNatClampNeg r0) ∧ (i 78 12).toInt + y.toInt ≤ 600 ∧ (y.toInt < 0 → (r0.toInt - y.toInt ≤ (i 78 12).toInt ∧ ∀ j : Nat, (j : Int) < - y.toInt → F 85 (Int32.toNatClampNeg r0 + j) = 32)))) (xB D tA b 78 52 zz) (xA b 78 52)) ([.ref (b + 78), .int x, .int y] : List Value).toArray s 0 0 (xA b 78 52)) (F0 m 9 ls []) := by
    intro d
    induction d with
    | zero =>
      intro k q9 H locs ls h1 h2 h3 h4 h5 h6 h7 hH hS hl
      have rg_k := fb_rng k
      have rg_q9 := fb_rng q9
      refine lv_iload (pc := 9) C0.1 C0.2.1 dX10_mayShift_9 (lv_at hl 0 rfl) ?_
      refine lv_iload_n (pc := 11) C0.1 C0.2.1 dX10_mayShift_11 rfl (lv_at hl 4 rfl) ?_
      refine lv_ineg (pc := 12) C0.1 C0.2.1 dX10_mayShift_12 ?_
      refine lv_topi (fun x201 ex201 => ?_)
      have hx201 : Int32.toInt x201 = - Int32.toInt y := by rw [ex201]; exact fb_negI (by omega)
      refine lv_icmp_ge (pc := 13) (tgt := 50) C0.1 C0.2.1 dX10_mayShift_13 (by decide) (fun _ => ?_) (fun c => absurd (Int32.le_iff_toInt_le.mpr (by omega)) c)
      refine lv_aload_n (pc := 50) C0.1 C0.2.1 dX10_mayShift_50 rfl (lv_at hl 2 rfl) ?_
      refine xget (pc := 51) C0 hH 78 12 clX10 ⟨Nat.le_of_ble_eq_true rfl, Nat.le_of_ble_eq_true rfl⟩ ⟨rfl, rfl⟩ (Nat.le_of_ble_eq_true rfl) fl_X10_219 (v := .int (i 78 12)) rfl dX10_mayShift_51 ?_
      refine lv_iload_n (pc := 54) C0.1 C0.2.1 dX10_mayShift_54 rfl (lv_at hl 4 rfl) ?_
      refine lv_iadd (pc := 55) C0.1 C0.2.1 dX10_mayShift_55 ?_
      refine lv_topi (fun x202 ex202 => ?_)
      have hx202 : Int32.toInt x202 = Int32.toInt (i 78 12) + Int32.toInt y := by rw [ex202]; exact fb_addI (by omega) (by omega)
      refine lv_sipush (pc := 56) (v := 600) C0.1 C0.2.1 dX10_mayShift_56 (by decide) ?_
      refine lv_icmp_le (pc := 59) (tgt := 67) C0.1 C0.2.1 dX10_mayShift_59 (by decide) (fun c203 => ?_) (fun c203 => ?_)
      · have : Int32.toInt 600 = 600 := rfl
        have c203 := Int32.le_iff_toInt_le.mp c203
        refine lv_iconst (pc := 67) (v := 1) C0.1 C0.2.1 dX10_mayShift_67 (by decide) ?_
        exact xiret (pc := 68) C0 hr hH hS dX10_mayShift_68 ⟨rfl, fun _ => ⟨q9, h3, h6, by omega, fun hy0 => ⟨by omega, fun j hj => h5 j (by omega)⟩⟩⟩
      · have : Int32.toInt 600 = 600 := rfl
        have c203 : ¬ _ := fun q => c203 (Int32.le_iff_toInt_le.mpr q)
        refine lv_bipush (pc := 62) (v := (-4)) C0.1 C0.2.1 dX10_mayShift_62 (by decide) ?_
        refine lv_goto (pc := 64) (tgt := 68) C0.1 C0.2.1 dX10_mayShift_64 (by decide) ?_
        exact xiret (pc := 68) C0 hr hH hS dX10_mayShift_68 ⟨rfl, fun q => absurd q (by decide)⟩
    | succ d ih9 =>
      intro k q9 H locs ls h1 h2 h3 h4 h5 h6 h7 hH hS hl
      have rg_k := fb_rng k
      have rg_q9 := fb_rng q9
      refine lv_iload (pc := 9) C0.1 C0.2.1 dX10_mayShift_9 (lv_at hl 0 rfl) ?_
      refine lv_iload_n (pc := 11) C0.1 C0.2.1 dX10_mayShift_11 rfl (lv_at hl 4 rfl) ?_
      refine lv_ineg (pc := 12) C0.1 C0.2.1 dX10_mayShift_12 ?_
      refine lv_topi (fun x201 ex201 => ?_)
      have hx201 : Int32.toInt x201 = - Int32.toInt y := by rw [ex201]; exact fb_negI (by omega)
      refine lv_icmp_ge (pc := 13) (tgt := 50) C0.1 C0.2.1 dX10_mayShift_13 (by decide) (fun c202 => ?_) (fun c202 => ?_)
      · have c202 := Int32.le_iff_toInt_le.mp c202
        refine lv_aload_n (pc := 50) C0.1 C0.2.1 dX10_mayShift_50 rfl (lv_at hl 2 rfl) ?_
        refine xget (pc := 51) C0 hH 78 12 clX10 ⟨Nat.le_of_ble_eq_true rfl, Nat.le_of_ble_eq_true rfl⟩ ⟨rfl, rfl⟩ (Nat.le_of_ble_eq_true rfl) fl_X10_219 (v := .int (i 78 12)) rfl dX10_mayShift_51 ?_
        refine lv_iload_n (pc := 54) C0.1 C0.2.1 dX10_mayShift_54 rfl (lv_at hl 4 rfl) ?_
        refine lv_iadd (pc := 55) C0.1 C0.2.1 dX10_mayShift_55 ?_
        refine lv_topi (fun x203 ex203 => ?_)
        have hx203 : Int32.toInt x203 = Int32.toInt (i 78 12) + Int32.toInt y := by rw [ex203]; exact fb_addI (by omega) (by omega)
        refine lv_sipush (pc := 56) (v := 600) C0.1 C0.2.1 dX10_mayShift_56 (by decide) ?_
        refine lv_icmp_le (pc := 59) (tgt := 67) C0.1 C0.2.1 dX10_mayShift_59 (by decide) (fun c204 => ?_) (fun c204 => ?_)
        · have : Int32.toInt 600 = 600 := rfl
          have c204 := Int32.le_iff_toInt_le.mp c204
          refine lv_iconst (pc := 67) (v := 1) C0.1 C0.2.1 dX10_mayShift_67 (by decide) ?_
          exact xiret (pc := 68) C0 hr hH hS dX10_mayShift_68 ⟨rfl, fun _ => ⟨q9, h3, h6, by omega, fun hy0 => ⟨by omega, fun j hj => h5 j (by omega)⟩⟩⟩
        · have : Int32.toInt 600 = 600 := rfl
          have c204 : ¬ _ := fun q => c204 (Int32.le_iff_toInt_le.mpr q)
          refine lv_bipush (pc := 62) (v := (-4)) C0.1 C0.2.1 dX10_mayShift_62 (by decide) ?_
          refine lv_goto (pc := 64) (tgt := 68) C0.1 C0.2.1 dX10_mayShift_64 (by decide) ?_
          exact xiret (pc := 68) C0 hr hH hS dX10_mayShift_68 ⟨rfl, fun q => absurd q (by decide)⟩
      · have c202 : ¬ _ := fun q => c202 (Int32.le_iff_toInt_le.mpr q)
        refine lv_iload_n (pc := 16) C0.1 C0.2.1 dX10_mayShift_16 rfl (lv_at hl 1 rfl) ?_
        refine lv_iload (pc := 17) C0.1 C0.2.1 dX10_mayShift_17 (lv_at hl 0 rfl) ?_
        refine lv_iadd (pc := 19) C0.1 C0.2.1 dX10_mayShift_19 ?_
        refine lv_topi (fun x205 ex205 => ?_)
        have hx205 : Int32.toInt x205 = Int32.toInt q9 + Int32.toInt k := by rw [ex205]; exact fb_addI (by omega) (by omega)
        refine lv_aload_n (pc := 20) C0.1 C0.2.1 dX10_mayShift_20 rfl (lv_at hl 2 rfl) ?_
        refine xget (pc := 21) C0 hH 78 12 clX10 ⟨Nat.le_of_ble_eq_true rfl, Nat.le_of_ble_eq_true rfl⟩ ⟨rfl, rfl⟩ (Nat.le_of_ble_eq_true rfl) fl_X10_219 (v := .int (i 78 12)) rfl dX10_mayShift_21 ?_
        refine lv_icmp_ge (pc := 24) (tgt := 41) C0.1 C0.2.1 dX10_mayShift_24 (by decide) (fun c206 => ?_) (fun c206 => ?_)
        · have c206 := Int32.le_iff_toInt_le.mp c206
          refine lv_bipush (pc := 41) (v := (-3)) C0.1 C0.2.1 dX10_mayShift_41 (by decide) ?_
          exact xiret (pc := 43) C0 hr hH hS dX10_mayShift_43 ⟨rfl, fun q => absurd q (by decide)⟩
        · have c206 : ¬ _ := fun q => c206 (Int32.le_iff_toInt_le.mpr q)
          refine lv_aload_n (pc := 27) C0.1 C0.2.1 dX10_mayShift_27 rfl (lv_at hl 2 rfl) ?_
          refine xget (pc := 28) C0 hH 78 11 clX10 ⟨Nat.le_of_ble_eq_true rfl, Nat.le_of_ble_eq_true rfl⟩ ⟨rfl, rfl⟩ (Nat.le_of_ble_eq_true rfl) fl_X10_29 (v := .ref (b + 85)) rfl dX10_mayShift_28 ?_
          refine lv_iload_n (pc := 31) C0.1 C0.2.1 dX10_mayShift_31 rfl (lv_at hl 1 rfl) ?_
          refine lv_iload (pc := 32) C0.1 C0.2.1 dX10_mayShift_32 (lv_at hl 0 rfl) ?_
          refine lv_iadd (pc := 34) C0.1 C0.2.1 dX10_mayShift_34 ?_
          refine lv_topi (fun x207 ex207 => ?_)
          have hx207 : Int32.toInt x207 = Int32.toInt q9 + Int32.toInt k := by rw [ex207]; exact fb_addI (by omega) (by omega)
          refine xbald (pc := 35) (N := 600) C0 hH 85 ⟨Nat.le_of_ble_eq_true rfl, Nat.le_of_ble_eq_true rfl⟩ ⟨rfl, rfl⟩ (vI (by omega) (by omega)) dX10_mayShift_35 ?_
          refine lv_bipush (pc := 36) (v := 32) C0.1 C0.2.1 dX10_mayShift_36 (by decide) ?_
          refine lv_icmp_eq (pc := 38) (tgt := 44) C0.1 C0.2.1 dX10_mayShift_38 (by decide) (fun c208 => ?_) (fun c208 => ?_)
          · have : Int32.toInt 32 = 32 := rfl
            have c208 := congrArg Int32.toInt c208
            obtain ⟨x209, ex209⟩ : ∃ y_ : Int32, y_ = k + 1 := ⟨_, rfl⟩
            have : Int32.toInt 1 = 1 := rfl
            have hx209 : Int32.toInt x209 = Int32.toInt k + Int32.toInt 1 := by rw [ex209]; exact fb_addI (by omega) (by omega)
            refine lv_iinc (pc := 44) (v := x209) (lv' := [(4, .int x209), (3, .int q9), (0, .ref (b + 78)), (1, .int x), (2, .int y)]) C0.1 C0.2.1 dX10_mayShift_44 hl (k := 0) rfl (by rw [ex209]; rfl) (by decide) rfl (fun ls hl => ?_)
            refine lv_goto (pc := 47) (tgt := 9) C0.1 C0.2.1 dX10_mayShift_47 (by decide) ?_
            exact ih9 x209 q9 _ _ _ (by omega) (by omega) h3 (Or.inr (by omega)) (bl9 (ix := x207) (by omega) h5 (by omega) (by omega) (by omega) (by first | assumption | exact Int32.toInt_inj.mp (by assumption))) h6 (by omega) hH hS (lv_sub hl [0, 1, 2, 3, 4] rfl)
          · have : Int32.toInt 32 = 32 := rfl
            have c208 : ¬ _ := fun q => c208 (Int32.toInt_inj.mp q)
            refine lv_bipush (pc := 41) (v := (-3)) C0.1 C0.2.1 dX10_mayShift_41 (by decide) ?_
            exact xiret (pc := 43) C0 hr hH hS dX10_mayShift_43 ⟨rfl, fun q => absurd q (by decide)⟩
  refine lv_aload_n (pc := 0) C0.1 C0.2.1 dX10_mayShift_0 rfl (lv_at hl 0 rfl) ?_
  refine lv_iload_n (pc := 1) C0.1 C0.2.1 dX10_mayShift_1 rfl (lv_at hl 1 rfl) ?_
  refine xcVI (pc := 2) 78 [.int x] (m_lineAt l D tA b i F G x (show 0 ≤ Int32.toInt (i 78 12) ∧ Int32.toInt (i 78 12) ≤ 600 from by omega) hln) C0 hH hS clX10 rfl ⟨⟨Nat.le_of_ble_eq_true rfl, Nat.le_of_ble_eq_true rfl⟩, rfl, rfl⟩ cw_X10_222 rfl ⟨Nat.le_of_ble_eq_true rfl, Nat.le_of_ble_eq_true rfl⟩ hl.1 rfl (Nat.le_of_ble_eq_true rfl) dX10_mayShift_2 ⟨Nat.le_of_ble_eq_true rfl, Nat.le_of_ble_eq_true rfl⟩ (fun r1 ir1 Fr1 Gr1 _ locs hp hH hS => ?_)
  obtain ⟨hu, hr1r1, hlar1⟩ := hp
  cases hu
  refine lv_istore_n (pc := 5) (lv' := [(3, .int r1), (0, .ref (b + 78)), (1, .int x), (2, .int y)]) C0.1 C0.2.1 dX10_mayShift_5 rfl hl (by decide) rfl (fun ls hl => ?_)
  refine lv_iconst (pc := 6) (v := 0) C0.1 C0.2.1 dX10_mayShift_6 (by decide) ?_
  refine lv_istore (pc := 7) (lv' := [(4, .int 0), (3, .int r1), (0, .ref (b + 78)), (1, .int x), (2, .int y)]) C0.1 C0.2.1 dX10_mayShift_7 hl (by decide) rfl (fun ls hl => ?_)
  exact L9 40 0 r1 _ _ _ (by decide) (by have : Int32.toInt 0 = 0 := rfl; omega) (by omega) (Or.inl rfl) (fun j hj => absurd hj (by have : Int32.toInt 0 = 0 := rfl; omega)) hlar1 (Or.inl (by decide)) hH hS (lv_sub hl [0, 1, 2, 3, 4] rfl)
set_option maxHeartbeats 4000000 in
set_option maxRecDepth 100000 in
theorem m_move (l : Launch) (D : va_G) (tA : Nat → ClassId) (b : Nat) (i F : Nat → Nat → Int32) (G : Nat → Nat → Int64) (x y r0 : Int32) (hsz : 0 ≤ (i 78 12).toInt ∧ (i 78 12).toInt ≤ 600) (hln : x.toInt ≤ c10 (F 85) (Int32.toNatClampNeg (i 78 12))) (hy : -40 ≤ y.toInt ∧ y.toInt ≤ 40) (hr0 : 0 ≤ r0.toInt ∧ r0.toInt ≤ (i 78 12).toInt) (hla : LA (F 85) x.toInt (Int32.toNatClampNeg r0)) (hup : (i 78 12).toInt + y.toInt ≤ 600) (hdn : y.toInt < 0 → r0.toInt - y.toInt ≤ (i 78 12).toInt) (hbt : BT (F 85)) : xMV l yX10_move cX10_move 5 none 1 23 D tA b 78 52 i F G [.ref (b + 78), .int x, .int y] (fun u => RO [12] [85] i F G u ∧ (u.1 78 12).toInt = (i 78 12).toInt + y.toInt ∧ (u.2.1 85 = mvf (F 85) (Int32.toNatClampNeg r0) y.toInt (i 78 12).toInt) ∧ BT (u.2.1 85)) := by
  refine xstart RX10 rfl (by decide) (Nat.le_of_ble_eq_true rfl) ?_
  intro p e s m below meth c ls C0 hr hH hS hl
  have hl : lv_has ls 5 [(0, .ref (b + 78)), (1, .int x), (2, .int y)] := hl
  have rg_x := fb_rng x
  have rg_y := fb_rng y
  have L111 : ∀ (d : Nat) (q9 : Int32) (iv Fv : Nat → Nat → Int32) (Gv : Nat → Nat → Int64) (H : Heap) (locs : List Loc) (ls : Array Slot), (RO [] [85] i F G (iv, Fv, Gv)) → (0 ≤ q9.toInt ∧ q9.toInt ≤ (i 78 12).toInt) → (q9 = r0) → (BT (Fv 85)) → (Fv 85 = mvf (F 85) (Int32.toNatClampNeg r0) y.toInt (i 78 12).toInt) → Hd D tA b 78 52 zz iv Fv Gv H → va_S (xA b 78 52) s.heap H locs → lv_has ls 5 [(0, .ref (b + 78)), (1, .int x), (2, .int y)] → W p l e (xR 1 23) s m ([.ref (b + 78), .int x, .int y] : List Value).toArray below meth c H locs 0 0 (MQ below (va_Qv (fun u => RO [12] [85] i F G u ∧ (u.1 78 12).toInt = (i 78 12).toInt + y.toInt ∧ (u.2.1 85 = mvf (F 85) (Int32.toNatClampNeg r0) y.toInt (i 78 12).toInt) ∧ BT (u.2.1 85)) (xB D tA b 78 52 zz) (xA b 78 52)) ([.ref (b + 78), .int x, .int y] : List Value).toArray s 0 0 (xA b 78 52)) (F0 m 111 ls []) := by
    intro d
    intro q9 iv Fv Gv H locs ls h1 h2 h3 h4 h5 hH hS hl
    have rg_q9 := fb_rng q9
    have eki : iv 78 12 = i 78 12 := h1.1 78 12 (Or.inr (by decide))
    have ekI := congrArg Int32.toInt eki
    have hc0 := clI (x := q9) (by omega)
    refine lv_aload_n (pc := 111) C0.1 C0.2.1 dX10_move_111 rfl (lv_at hl 0 rfl) ?_
    refine lv_dup (pc := 112) C0.1 C0.2.1 dX10_move_112 rfl ?_
    refine xget (pc := 113) C0 hH 78 12 clX10 ⟨Nat.le_of_ble_eq_true rfl, Nat.le_of_ble_eq_true rfl⟩ ⟨rfl, rfl⟩ (Nat.le_of_ble_eq_true rfl) fl_X10_219 (v := .int (iv 78 12)) rfl dX10_move_113 ?_
    refine lv_iload_n (pc := 116) C0.1 C0.2.1 dX10_move_116 rfl (lv_at hl 2 rfl) ?_
    refine lv_iadd (pc := 117) C0.1 C0.2.1 dX10_move_117 ?_
    refine lv_topi (fun x201 ex201 => ?_)
    have hx201 : Int32.toInt x201 = Int32.toInt (iv 78 12) + Int32.toInt y := by rw [ex201]; exact fb_addI (by omega) (by omega)
    refine xputI (pc := 118) C0 (Nat.le_of_ble_eq_true rfl) hH hS 78 12 clX10 ⟨Nat.le_of_ble_eq_true rfl, Nat.le_of_ble_eq_true rfl⟩ ⟨rfl, rfl⟩ ⟨Nat.le_of_ble_eq_true rfl, rfl, rfl⟩ fl_X10_219 (x := x201) ⟨rfl, rfl⟩ dX10_move_118 (fun _ locs hH hS _ => ?_)
    have hH : Hd D tA b 78 52 zz (up2 iv 78 12 x201) Fv Gv _ := hH
    exact xvret (pc := 121) C0 hr hH hS dX10_move_121 ⟨(RO.i (RO.tr RO.rf h1 (by decide) (by decide)) (by decide)), (show Int32.toInt x201 = _ from by omega), h5, h4⟩
  have L80 : ∀ (d : Nat) (k q9 : Int32) (iv Fv : Nat → Nat → Int32) (Gv : Nat → Nat → Int64) (H : Heap) (locs : List Loc) (ls : Array Slot), (RO [] [85] i F G (iv, Fv, Gv)) → (0 ≤ q9.toInt ∧ q9.toInt ≤ (i 78 12).toInt) → (q9 = r0) → (BT (Fv 85)) → (q9.toInt - y.toInt ≤ k.toInt ∧ (k.toInt ≤ (i 78 12).toInt ∨ k.toInt = q9.toInt - y.toInt)) → ((i 78 12).toInt - k.toInt ≤ d) → (y.toInt ≤ 0) → (∀ j : Nat, Fv 85 j = if q9.toInt ≤ (j : Int) ∧ (j : Int) < k.toInt + y.toInt then F 85 ((j : Int) - y.toInt).toNat else F 85 j) → Hd D tA b 78 52 zz iv Fv Gv H → va_S (xA b 78 52) s.heap H locs → lv_has ls 5 [(4, .int k), (3, .int q9), (0, .ref (b + 78)), (1, .int x), (2, .int y)] → W p l e (xR 1 23) s m ([.ref (b + 78), .int x, .int y] : List Value).toArray below meth c H locs 0 0 (MQ below (va_Qv (fun u => RO [12] [85] i F G u ∧ (u.1 78 12).toInt = (i 78 12).toInt + y.toInt ∧ (u.2.1 85 = mvf (F 85) (Int32.toNatClampNeg r0) y.toInt (i 78 12).toInt) ∧ BT (u.2.1 85)) (xB D tA b 78 52 zz) (xA b 78 52)) ([.ref (b + 78), .int x, .int y] : List Value).toArray s 0 0 (xA b 78 52)) (F0 m 80 ls []) := by
    intro d
    induction d with
    | zero =>
      intro k q9 iv Fv Gv H locs ls h1 h2 h3 h4 h5 h6 h7 h8 hH hS hl
      have rg_k := fb_rng k
      have rg_q9 := fb_rng q9
      have eki : iv 78 12 = i 78 12 := h1.1 78 12 (Or.inr (by decide))
      have ekI := congrArg Int32.toInt eki
      have hc0 := clI (x := q9) (by omega)
      refine lv_iload (pc := 80) C0.1 C0.2.1 dX10_move_80 (lv_at hl 0 rfl) ?_
      refine lv_aload_n (pc := 82) C0.1 C0.2.1 dX10_move_82 rfl (lv_at hl 2 rfl) ?_
      refine xget (pc := 83) C0 hH 78 12 clX10 ⟨Nat.le_of_ble_eq_true rfl, Nat.le_of_ble_eq_true rfl⟩ ⟨rfl, rfl⟩ (Nat.le_of_ble_eq_true rfl) fl_X10_219 (v := .int (iv 78 12)) rfl dX10_move_83 ?_
      refine lv_icmp_ge (pc := 86) (tgt := 111) C0.1 C0.2.1 dX10_move_86 (by decide) (fun _ => ?_) (fun c => absurd (Int32.le_iff_toInt_le.mpr (by omega)) c)
      exact L111 0 q9 iv Fv Gv _ _ _ h1 h2 h3 h4 (mv_e2 h8 (by rw [← h3]; exact hc0) (by have e3 := congrArg Int32.toInt h3; omega) h7) hH hS (lv_sub hl [2, 3, 4] rfl)
    | succ d ih80 =>
      intro k q9 iv Fv Gv H locs ls h1 h2 h3 h4 h5 h6 h7 h8 hH hS hl
      have rg_k := fb_rng k
      have rg_q9 := fb_rng q9
      have eki : iv 78 12 = i 78 12 := h1.1 78 12 (Or.inr (by decide))
      have ekI := congrArg Int32.toInt eki
      have hc0 := clI (x := q9) (by omega)
      refine lv_iload (pc := 80) C0.1 C0.2.1 dX10_move_80 (lv_at hl 0 rfl) ?_
      refine lv_aload_n (pc := 82) C0.1 C0.2.1 dX10_move_82 rfl (lv_at hl 2 rfl) ?_
      refine xget (pc := 83) C0 hH 78 12 clX10 ⟨Nat.le_of_ble_eq_true rfl, Nat.le_of_ble_eq_true rfl⟩ ⟨rfl, rfl⟩ (Nat.le_of_ble_eq_true rfl) fl_X10_219 (v := .int (iv 78 12)) rfl dX10_move_83 ?_
      refine lv_icmp_ge (pc := 86) (tgt := 111) C0.1 C0.2.1 dX10_move_86 (by decide) (fun c201 => ?_) (fun c201 => ?_)
      · have c201 := Int32.le_iff_toInt_le.mp c201
        exact L111 0 q9 iv Fv Gv _ _ _ h1 h2 h3 h4 (mv_e2 h8 (by rw [← h3]; exact hc0) (by have e3 := congrArg Int32.toInt h3; omega) h7) hH hS (lv_sub hl [2, 3, 4] rfl)
      · have c201 : ¬ _ := fun q => c201 (Int32.le_iff_toInt_le.mpr q)
        refine lv_aload_n (pc := 89) C0.1 C0.2.1 dX10_move_89 rfl (lv_at hl 2 rfl) ?_
        refine xget (pc := 90) C0 hH 78 11 clX10 ⟨Nat.le_of_ble_eq_true rfl, Nat.le_of_ble_eq_true rfl⟩ ⟨rfl, rfl⟩ (Nat.le_of_ble_eq_true rfl) fl_X10_29 (v := .ref (b + 85)) rfl dX10_move_90 ?_
        refine lv_iload (pc := 93) C0.1 C0.2.1 dX10_move_93 (lv_at hl 0 rfl) ?_
        refine lv_iload_n (pc := 95) C0.1 C0.2.1 dX10_move_95 rfl (lv_at hl 4 rfl) ?_
        refine lv_iadd (pc := 96) C0.1 C0.2.1 dX10_move_96 ?_
        refine lv_topi (fun x202 ex202 => ?_)
        have hx202 : Int32.toInt x202 = Int32.toInt k + Int32.toInt y := by rw [ex202]; exact fb_addI (by omega) (by omega)
        refine lv_aload_n (pc := 97) C0.1 C0.2.1 dX10_move_97 rfl (lv_at hl 2 rfl) ?_
        refine xget (pc := 98) C0 hH 78 11 clX10 ⟨Nat.le_of_ble_eq_true rfl, Nat.le_of_ble_eq_true rfl⟩ ⟨rfl, rfl⟩ (Nat.le_of_ble_eq_true rfl) fl_X10_29 (v := .ref (b + 85)) rfl dX10_move_98 ?_
        refine lv_iload (pc := 101) C0.1 C0.2.1 dX10_move_101 (lv_at hl 0 rfl) ?_
        refine xbald (pc := 103) (N := 600) C0 hH 85 ⟨Nat.le_of_ble_eq_true rfl, Nat.le_of_ble_eq_true rfl⟩ ⟨rfl, rfl⟩ (vI (by omega) (by omega)) dX10_move_103 ?_
        refine xbast (pc := 104) (N := 600) C0 (Nat.le_of_ble_eq_true rfl) hH hS 85 ⟨Nat.le_of_ble_eq_true rfl, Nat.le_of_ble_eq_true rfl⟩ ⟨rfl, rfl⟩ (vI (by omega) (by omega)) dX10_move_104 (fun _ locs hH hS => ?_)
        have hH : Hd D tA b 78 52 zz iv (va_up Fv 85 (upd (Fv 85) (Int32.toNatClampNeg x202) (Int8.toInt32 (Int32.toInt8 (Fv 85 (Int32.toNatClampNeg k)))))) Gv _ := hH
        obtain ⟨x203, ex203⟩ : ∃ y_ : Int32, y_ = k + 1 := ⟨_, rfl⟩
        have : Int32.toInt 1 = 1 := rfl
        have hx203 : Int32.toInt x203 = Int32.toInt k + Int32.toInt 1 := by rw [ex203]; exact fb_addI (by omega) (by omega)
        refine lv_iinc (pc := 105) (v := x203) (lv' := [(4, .int x203), (3, .int q9), (0, .ref (b + 78)), (1, .int x), (2, .int y)]) C0.1 C0.2.1 dX10_move_105 hl (k := 0) rfl (by rw [ex203]; rfl) (by decide) rfl (fun ls hl => ?_)
        refine lv_goto (pc := 108) (tgt := 80) C0.1 C0.2.1 dX10_move_108 (by decide) ?_
        exact ih80 x203 q9 iv (va_up Fv 85 (upd (Fv 85) (Int32.toNatClampNeg x202) (Int8.toInt32 (Int32.toInt8 (Fv 85 (Int32.toNatClampNeg k)))))) Gv _ _ _ (RO.f h1 (by decide)) h2 h3 (BT.up h4) (by omega) (by omega) h7 (mv_l (kx := x202) h8 (by omega) (by omega) (by omega) (by omega) hbt (by omega)) hH hS (lv_sub hl [0, 1, 2, 3, 4] rfl)
  have L49 : ∀ (d : Nat) (k q9 : Int32) (iv Fv : Nat → Nat → Int32) (Gv : Nat → Nat → Int64) (H : Heap) (locs : List Loc) (ls : Array Slot), (RO [] [85] i F G (iv, Fv, Gv)) → (0 ≤ q9.toInt ∧ q9.toInt ≤ (i 78 12).toInt) → (q9 = r0) → (BT (Fv 85)) → (0 ≤ k.toInt ∧ k.toInt ≤ y.toInt) → (y.toInt - k.toInt ≤ d) → (0 < y.toInt) → (∀ j : Nat, Fv 85 j = if q9.toInt ≤ (j : Int) ∧ (j : Int) < q9.toInt + k.toInt then 32 else if q9.toInt + y.toInt ≤ (j : Int) ∧ (j : Int) < (i 78 12).toInt + y.toInt then F 85 ((j : Int) - y.toInt).toNat else F 85 j) → Hd D tA b 78 52 zz iv Fv Gv H → va_S (xA b 78 52) s.heap H locs → lv_has ls 5 [(4, .int k), (3, .int q9), (0, .ref (b + 78)), (1, .int x), (2, .int y)] → W p l e (xR 1 23) s m ([.ref (b + 78), .int x, .int y] : List Value).toArray below meth c H locs 0 0 (MQ below (va_Qv (fun u => RO [12] [85] i F G u ∧ (u.1 78 12).toInt = (i 78 12).toInt + y.toInt ∧ (u.2.1 85 = mvf (F 85) (Int32.toNatClampNeg r0) y.toInt (i 78 12).toInt) ∧ BT (u.2.1 85)) (xB D tA b 78 52 zz) (xA b 78 52)) ([.ref (b + 78), .int x, .int y] : List Value).toArray s 0 0 (xA b 78 52)) (F0 m 49 ls []) := by
    intro d
    induction d with
    | zero =>
      intro k q9 iv Fv Gv H locs ls h1 h2 h3 h4 h5 h6 h7 h8 hH hS hl
      have rg_k := fb_rng k
      have rg_q9 := fb_rng q9
      have eki : iv 78 12 = i 78 12 := h1.1 78 12 (Or.inr (by decide))
      have ekI := congrArg Int32.toInt eki
      have hc0 := clI (x := q9) (by omega)
      refine lv_iload (pc := 49) C0.1 C0.2.1 dX10_move_49 (lv_at hl 0 rfl) ?_
      refine lv_iload_n (pc := 51) C0.1 C0.2.1 dX10_move_51 rfl (lv_at hl 4 rfl) ?_
      refine lv_icmp_ge (pc := 52) (tgt := 72) C0.1 C0.2.1 dX10_move_52 (by decide) (fun _ => ?_) (fun c => absurd (Int32.le_iff_toInt_le.mpr (by omega)) c)
      refine lv_goto (pc := 72) (tgt := 111) C0.1 C0.2.1 dX10_move_72 (by decide) ?_
      exact L111 0 q9 iv Fv Gv _ _ _ h1 h2 h3 h4 (mv_e1 h8 (by rw [← h3]; exact hc0) (by omega) h7) hH hS (lv_sub hl [2, 3, 4] rfl)
    | succ d ih49 =>
      intro k q9 iv Fv Gv H locs ls h1 h2 h3 h4 h5 h6 h7 h8 hH hS hl
      have rg_k := fb_rng k
      have rg_q9 := fb_rng q9
      have eki : iv 78 12 = i 78 12 := h1.1 78 12 (Or.inr (by decide))
      have ekI := congrArg Int32.toInt eki
      have hc0 := clI (x := q9) (by omega)
      refine lv_iload (pc := 49) C0.1 C0.2.1 dX10_move_49 (lv_at hl 0 rfl) ?_
      refine lv_iload_n (pc := 51) C0.1 C0.2.1 dX10_move_51 rfl (lv_at hl 4 rfl) ?_
      refine lv_icmp_ge (pc := 52) (tgt := 72) C0.1 C0.2.1 dX10_move_52 (by decide) (fun c201 => ?_) (fun c201 => ?_)
      · have c201 := Int32.le_iff_toInt_le.mp c201
        refine lv_goto (pc := 72) (tgt := 111) C0.1 C0.2.1 dX10_move_72 (by decide) ?_
        exact L111 0 q9 iv Fv Gv _ _ _ h1 h2 h3 h4 (mv_e1 h8 (by rw [← h3]; exact hc0) (by omega) h7) hH hS (lv_sub hl [2, 3, 4] rfl)
      · have c201 : ¬ _ := fun q => c201 (Int32.le_iff_toInt_le.mpr q)
        refine lv_aload_n (pc := 55) C0.1 C0.2.1 dX10_move_55 rfl (lv_at hl 2 rfl) ?_
        refine xget (pc := 56) C0 hH 78 11 clX10 ⟨Nat.le_of_ble_eq_true rfl, Nat.le_of_ble_eq_true rfl⟩ ⟨rfl, rfl⟩ (Nat.le_of_ble_eq_true rfl) fl_X10_29 (v := .ref (b + 85)) rfl dX10_move_56 ?_
        refine lv_iload_n (pc := 59) C0.1 C0.2.1 dX10_move_59 rfl (lv_at hl 1 rfl) ?_
        refine lv_iload (pc := 60) C0.1 C0.2.1 dX10_move_60 (lv_at hl 0 rfl) ?_
        refine lv_iadd (pc := 62) C0.1 C0.2.1 dX10_move_62 ?_
        refine lv_topi (fun x202 ex202 => ?_)
        have hx202 : Int32.toInt x202 = Int32.toInt q9 + Int32.toInt k := by rw [ex202]; exact fb_addI (by omega) (by omega)
        refine lv_bipush (pc := 63) (v := 32) C0.1 C0.2.1 dX10_move_63 (by decide) ?_
        refine xbast (pc := 65) (N := 600) C0 (Nat.le_of_ble_eq_true rfl) hH hS 85 ⟨Nat.le_of_ble_eq_true rfl, Nat.le_of_ble_eq_true rfl⟩ ⟨rfl, rfl⟩ (vI (by omega) (by omega)) dX10_move_65 (fun _ locs hH hS => ?_)
        have hH : Hd D tA b 78 52 zz iv (va_up Fv 85 (upd (Fv 85) (Int32.toNatClampNeg x202) (Int8.toInt32 (Int32.toInt8 32)))) Gv _ := hH
        obtain ⟨x203, ex203⟩ : ∃ y_ : Int32, y_ = k + 1 := ⟨_, rfl⟩
        have : Int32.toInt 1 = 1 := rfl
        have hx203 : Int32.toInt x203 = Int32.toInt k + Int32.toInt 1 := by rw [ex203]; exact fb_addI (by omega) (by omega)
        refine lv_iinc (pc := 66) (v := x203) (lv' := [(4, .int x203), (3, .int q9), (0, .ref (b + 78)), (1, .int x), (2, .int y)]) C0.1 C0.2.1 dX10_move_66 hl (k := 0) rfl (by rw [ex203]; rfl) (by decide) rfl (fun ls hl => ?_)
        refine lv_goto (pc := 69) (tgt := 49) C0.1 C0.2.1 dX10_move_69 (by decide) ?_
        exact ih49 x203 q9 iv (va_up Fv 85 (upd (Fv 85) (Int32.toNatClampNeg x202) (Int8.toInt32 (Int32.toInt8 32)))) Gv _ _ _ (RO.f h1 (by decide)) h2 h3 (BT.up h4) (by omega) (by omega) h7 (mv_b (kx := x202) h8 (by omega) (by omega) (by omega) (by omega)) hH hS (lv_sub hl [0, 1, 2, 3, 4] rfl)
  have L18 : ∀ (d : Nat) (k q9 : Int32) (iv Fv : Nat → Nat → Int32) (Gv : Nat → Nat → Int64) (H : Heap) (locs : List Loc) (ls : Array Slot), (RO [] [85] i F G (iv, Fv, Gv)) → (0 ≤ q9.toInt ∧ q9.toInt ≤ (i 78 12).toInt) → (q9 = r0) → (BT (Fv 85)) → (-1 ≤ k.toInt ∧ k.toInt < (i 78 12).toInt) → (k.toInt + 1 ≤ d) → (0 < y.toInt) → (q9.toInt - 1 ≤ k.toInt) → (∀ j : Nat, Fv 85 j = if k.toInt + y.toInt < (j : Int) ∧ (j : Int) < (i 78 12).toInt + y.toInt then F 85 ((j : Int) - y.toInt).toNat else F 85 j) → Hd D tA b 78 52 zz iv Fv Gv H → va_S (xA b 78 52) s.heap H locs → lv_has ls 5 [(4, .int k), (3, .int q9), (0, .ref (b + 78)), (1, .int x), (2, .int y)] → W p l e (xR 1 23) s m ([.ref (b + 78), .int x, .int y] : List Value).toArray below meth c H locs 0 0 (MQ below (va_Qv (fun u => RO [12] [85] i F G u ∧ (u.1 78 12).toInt = (i 78 12).toInt + y.toInt ∧ (u.2.1 85 = mvf (F 85) (Int32.toNatClampNeg r0) y.toInt (i 78 12).toInt) ∧ BT (u.2.1 85)) (xB D tA b 78 52 zz) (xA b 78 52)) ([.ref (b + 78), .int x, .int y] : List Value).toArray s 0 0 (xA b 78 52)) (F0 m 18 ls []) := by
    intro d
    induction d with
    | zero =>
      intro k q9 iv Fv Gv H locs ls h1 h2 h3 h4 h5 h6 h7 h8 h9 hH hS hl
      have rg_k := fb_rng k
      have rg_q9 := fb_rng q9
      have eki : iv 78 12 = i 78 12 := h1.1 78 12 (Or.inr (by decide))
      have ekI := congrArg Int32.toInt eki
      have hc0 := clI (x := q9) (by omega)
      refine lv_iload (pc := 18) C0.1 C0.2.1 dX10_move_18 (lv_at hl 0 rfl) ?_
      refine lv_iload_n (pc := 20) C0.1 C0.2.1 dX10_move_20 rfl (lv_at hl 1 rfl) ?_
      refine lv_icmp_lt (pc := 21) (tgt := 46) C0.1 C0.2.1 dX10_move_21 (by decide) (fun _ => ?_) (fun c => absurd (Int32.lt_iff_toInt_lt.mpr (by omega)) c)
      refine lv_iconst (pc := 46) (v := 0) C0.1 C0.2.1 dX10_move_46 (by decide) ?_
      refine lv_istore (pc := 47) (lv' := [(4, .int 0), (3, .int q9), (0, .ref (b + 78)), (1, .int x), (2, .int y)]) C0.1 C0.2.1 dX10_move_47 hl (by decide) rfl (fun ls hl => ?_)
      exact L49 40 0 q9 iv Fv Gv _ _ _ h1 h2 h3 h4 (by have : Int32.toInt 0 = 0 := rfl; omega) (by have : Int32.toInt 0 = 0 := rfl; omega) h7 (mv_x h9 (by omega) rfl) hH hS (lv_sub hl [0, 1, 2, 3, 4] rfl)
    | succ d ih18 =>
      intro k q9 iv Fv Gv H locs ls h1 h2 h3 h4 h5 h6 h7 h8 h9 hH hS hl
      have rg_k := fb_rng k
      have rg_q9 := fb_rng q9
      have eki : iv 78 12 = i 78 12 := h1.1 78 12 (Or.inr (by decide))
      have ekI := congrArg Int32.toInt eki
      have hc0 := clI (x := q9) (by omega)
      refine lv_iload (pc := 18) C0.1 C0.2.1 dX10_move_18 (lv_at hl 0 rfl) ?_
      refine lv_iload_n (pc := 20) C0.1 C0.2.1 dX10_move_20 rfl (lv_at hl 1 rfl) ?_
      refine lv_icmp_lt (pc := 21) (tgt := 46) C0.1 C0.2.1 dX10_move_21 (by decide) (fun c201 => ?_) (fun c201 => ?_)
      · have c201 := Int32.lt_iff_toInt_lt.mp c201
        refine lv_iconst (pc := 46) (v := 0) C0.1 C0.2.1 dX10_move_46 (by decide) ?_
        refine lv_istore (pc := 47) (lv' := [(4, .int 0), (3, .int q9), (0, .ref (b + 78)), (1, .int x), (2, .int y)]) C0.1 C0.2.1 dX10_move_47 hl (by decide) rfl (fun ls hl => ?_)
        exact L49 40 0 q9 iv Fv Gv _ _ _ h1 h2 h3 h4 (by have : Int32.toInt 0 = 0 := rfl; omega) (by have : Int32.toInt 0 = 0 := rfl; omega) h7 (mv_x h9 (by omega) rfl) hH hS (lv_sub hl [0, 1, 2, 3, 4] rfl)
      · have c201 : ¬ _ := fun q => c201 (Int32.lt_iff_toInt_lt.mpr q)
        refine lv_aload_n (pc := 24) C0.1 C0.2.1 dX10_move_24 rfl (lv_at hl 2 rfl) ?_
        refine xget (pc := 25) C0 hH 78 11 clX10 ⟨Nat.le_of_ble_eq_true rfl, Nat.le_of_ble_eq_true rfl⟩ ⟨rfl, rfl⟩ (Nat.le_of_ble_eq_true rfl) fl_X10_29 (v := .ref (b + 85)) rfl dX10_move_25 ?_
        refine lv_iload (pc := 28) C0.1 C0.2.1 dX10_move_28 (lv_at hl 0 rfl) ?_
        refine lv_iload_n (pc := 30) C0.1 C0.2.1 dX10_move_30 rfl (lv_at hl 4 rfl) ?_
        refine lv_iadd (pc := 31) C0.1 C0.2.1 dX10_move_31 ?_
        refine lv_topi (fun x202 ex202 => ?_)
        have hx202 : Int32.toInt x202 = Int32.toInt k + Int32.toInt y := by rw [ex202]; exact fb_addI (by omega) (by omega)
        refine lv_aload_n (pc := 32) C0.1 C0.2.1 dX10_move_32 rfl (lv_at hl 2 rfl) ?_
        refine xget (pc := 33) C0 hH 78 11 clX10 ⟨Nat.le_of_ble_eq_true rfl, Nat.le_of_ble_eq_true rfl⟩ ⟨rfl, rfl⟩ (Nat.le_of_ble_eq_true rfl) fl_X10_29 (v := .ref (b + 85)) rfl dX10_move_33 ?_
        refine lv_iload (pc := 36) C0.1 C0.2.1 dX10_move_36 (lv_at hl 0 rfl) ?_
        refine xbald (pc := 38) (N := 600) C0 hH 85 ⟨Nat.le_of_ble_eq_true rfl, Nat.le_of_ble_eq_true rfl⟩ ⟨rfl, rfl⟩ (vI (by omega) (by omega)) dX10_move_38 ?_
        refine xbast (pc := 39) (N := 600) C0 (Nat.le_of_ble_eq_true rfl) hH hS 85 ⟨Nat.le_of_ble_eq_true rfl, Nat.le_of_ble_eq_true rfl⟩ ⟨rfl, rfl⟩ (vI (by omega) (by omega)) dX10_move_39 (fun _ locs hH hS => ?_)
        have hH : Hd D tA b 78 52 zz iv (va_up Fv 85 (upd (Fv 85) (Int32.toNatClampNeg x202) (Int8.toInt32 (Int32.toInt8 (Fv 85 (Int32.toNatClampNeg k)))))) Gv _ := hH
        obtain ⟨x203, ex203⟩ : ∃ y_ : Int32, y_ = k + (-1) := ⟨_, rfl⟩
        have : Int32.toInt (-1) = (-1) := rfl
        have hx203 : Int32.toInt x203 = Int32.toInt k + Int32.toInt (-1) := by rw [ex203]; exact fb_addI (by omega) (by omega)
        refine lv_iinc (pc := 40) (v := x203) (lv' := [(4, .int x203), (3, .int q9), (0, .ref (b + 78)), (1, .int x), (2, .int y)]) C0.1 C0.2.1 dX10_move_40 hl (k := 0) rfl (by rw [ex203]; rfl) (by decide) rfl (fun ls hl => ?_)
        refine lv_goto (pc := 43) (tgt := 18) C0.1 C0.2.1 dX10_move_43 (by decide) ?_
        exact ih18 x203 q9 iv (va_up Fv 85 (upd (Fv 85) (Int32.toNatClampNeg x202) (Int8.toInt32 (Int32.toInt8 (Fv 85 (Int32.toNatClampNeg k)))))) Gv _ _ _ (RO.f h1 (by decide)) h2 h3 (BT.up h4) (by omega) (by omega) h7 (by omega) (mv_r (kx := x202) h9 (by omega) (by omega) (by omega) (by omega) hbt (by omega)) hH hS (lv_sub hl [0, 1, 2, 3, 4] rfl)
  refine lv_aload_n (pc := 0) C0.1 C0.2.1 dX10_move_0 rfl (lv_at hl 0 rfl) ?_
  refine lv_iload_n (pc := 1) C0.1 C0.2.1 dX10_move_1 rfl (lv_at hl 1 rfl) ?_
  refine xcVI (pc := 2) 78 [.int x] (m_lineAt l D tA b i F G x (show 0 ≤ Int32.toInt (i 78 12) ∧ Int32.toInt (i 78 12) ≤ 600 from by omega) hln) C0 hH hS clX10 rfl ⟨⟨Nat.le_of_ble_eq_true rfl, Nat.le_of_ble_eq_true rfl⟩, rfl, rfl⟩ cw_X10_222 rfl ⟨Nat.le_of_ble_eq_true rfl, Nat.le_of_ble_eq_true rfl⟩ hl.1 rfl (Nat.le_of_ble_eq_true rfl) dX10_move_2 ⟨Nat.le_of_ble_eq_true rfl, Nat.le_of_ble_eq_true rfl⟩ (fun r1 ir1 Fr1 Gr1 _ locs hp hH hS => ?_)
  obtain ⟨hu, hr1r1, hlar1⟩ := hp
  cases hu
  refine lv_istore_n (pc := 5) (lv' := [(3, .int r1), (0, .ref (b + 78)), (1, .int x), (2, .int y)]) C0.1 C0.2.1 dX10_move_5 rfl hl (by decide) rfl (fun ls hl => ?_)
  refine lv_iload_n (pc := 6) C0.1 C0.2.1 dX10_move_6 rfl (lv_at hl 3 rfl) ?_
  refine lv_if_le (pc := 7) (tgt := 75) C0.1 C0.2.1 dX10_move_7 (by decide) (fun c2 => ?_) (fun c2 => ?_)
  · have : Int32.toInt 0 = 0 := rfl
    have c2 := Int32.le_iff_toInt_le.mp c2
    refine lv_iload_n (pc := 75) C0.1 C0.2.1 dX10_move_75 rfl (lv_at hl 0 rfl) ?_
    refine lv_iload_n (pc := 76) C0.1 C0.2.1 dX10_move_76 rfl (lv_at hl 3 rfl) ?_
    refine lv_isub (pc := 77) C0.1 C0.2.1 dX10_move_77 ?_
    refine lv_topi (fun x3 ex3 => ?_)
    have hx3 : Int32.toInt x3 = Int32.toInt r1 - Int32.toInt y := by rw [ex3]; exact fb_subI (by omega) (by omega)
    refine lv_istore (pc := 78) (lv' := [(4, .int x3), (3, .int r1), (0, .ref (b + 78)), (1, .int x), (2, .int y)]) C0.1 C0.2.1 dX10_move_78 hl (by decide) rfl (fun ls hl => ?_)
    exact L80 600 x3 r1 i F G _ _ _ RO.rf (by omega) (LA.eq hla hlar1 (by omega) (by omega)) hbt (by omega) (by omega) (by omega) (fun j => by rw [if_neg (by omega)]) hH hS (lv_sub hl [0, 1, 2, 3, 4] rfl)
  · have : Int32.toInt 0 = 0 := rfl
    have c2 : ¬ _ := fun q => c2 (Int32.le_iff_toInt_le.mpr q)
    refine lv_aload_n (pc := 10) C0.1 C0.2.1 dX10_move_10 rfl (lv_at hl 1 rfl) ?_
    refine xget (pc := 11) C0 hH 78 12 clX10 ⟨Nat.le_of_ble_eq_true rfl, Nat.le_of_ble_eq_true rfl⟩ ⟨rfl, rfl⟩ (Nat.le_of_ble_eq_true rfl) fl_X10_219 (v := .int (i 78 12)) rfl dX10_move_11 ?_
    refine lv_iconst (pc := 14) (v := 1) C0.1 C0.2.1 dX10_move_14 (by decide) ?_
    have : Int32.toInt 1 = 1 := rfl
    refine lv_isub (pc := 15) C0.1 C0.2.1 dX10_move_15 ?_
    refine lv_topi (fun x4 ex4 => ?_)
    have hx4 : Int32.toInt x4 = Int32.toInt (i 78 12) - Int32.toInt 1 := by rw [ex4]; exact fb_subI (by omega) (by omega)
    refine lv_istore (pc := 16) (lv' := [(4, .int x4), (3, .int r1), (0, .ref (b + 78)), (1, .int x), (2, .int y)]) C0.1 C0.2.1 dX10_move_16 hl (by decide) rfl (fun ls hl => ?_)
    exact L18 600 x4 r1 i F G _ _ _ RO.rf (by omega) (LA.eq hla hlar1 (by omega) (by omega)) hbt (by omega) (by omega) (by omega) (by omega) (fun j => by rw [if_neg (by omega)]) hH hS (lv_sub hl [0, 1, 2, 3, 4] rfl)
