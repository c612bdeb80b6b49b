set_option maxRecDepth 20000 in
theorem cw_X10_307 : CwV RX10 307 yX10_isCloser cX10_isCloser 4 (some .boolean) 1 := ⟨wm 1412 (by decide +kernel) rfl, wm 1414 (by decide +kernel) rfl, wms 56 (by decide +kernel) rfl, wm 11 (by decide +kernel) rfl, wm 1415 rfl rfl, by decide +kernel⟩
set_option maxRecDepth 20000 in
theorem cw_X10_310 : CwV RX10 310 yX10_pairOf cX10_pairOf 4 (some .int) 2 := ⟨wm 1416 (by decide +kernel) rfl, wm 1418 (by decide +kernel) rfl, wms 57 (by decide +kernel) rfl, wm 11 (by decide +kernel) rfl, wm 1419 rfl rfl, by decide +kernel⟩
set_option maxRecDepth 20000 in
theorem cw_X10_316 : CwV RX10 316 yX10_begin cX10_begin 5 none 3 := ⟨wm 1420 (by decide +kernel) rfl, wm 1422 (by decide +kernel) rfl, wms 58 (by decide +kernel) rfl, wm 11 (by decide +kernel) rfl, wm 1423 rfl rfl, by decide +kernel⟩
set_option maxRecDepth 20000 in
theorem cw_X10_320 : CwV RX10 320 yX10_goOn cX10_goOn 2 none 1 := ⟨wm 1428 (by decide +kernel) rfl, wm 1430 (by decide +kernel) rfl, wms 60 (by decide +kernel) rfl, wm 11 (by decide +kernel) rfl, wm 1431 rfl rfl, by decide +kernel⟩
set_option maxRecDepth 20000 in
theorem fl_X10_313 : Cond.fieldLink RX10 313 (TX10 52).1 (TX10 52).2.1 (TX10 52).2.2.1 ∈ WALL := wm 1076 (by decide +kernel) rfl
theorem dX10_endsLet_7 : decode cX10_endsLet 7 = .ok (.iload_n 2, 1) := by decide +kernel
theorem dX10_endsLet_8 : decode cX10_endsLet 8 = .ok (.ifCond .lt 39, 3) := by decide +kernel
theorem dX10_endsLet_47 : decode cX10_endsLet 47 = .ok (.aload_n 0, 1) := by decide +kernel
theorem dX10_endsLet_48 : decode cX10_endsLet 48 = .ok (.iload_n 1, 1) := by decide +kernel
theorem dX10_endsLet_49 : decode cX10_endsLet 49 = .ok (.invokevirtual 307, 3) := by decide +kernel
theorem dX10_endsLet_52 : decode cX10_endsLet 52 = .ok (.ifCond .eq 22, 3) := by decide +kernel
theorem dX10_endsLet_74 : decode cX10_endsLet 74 = .ok (.iconst 0, 1) := by decide +kernel
theorem dX10_endsLet_75 : decode cX10_endsLet 75 = .ok (.ireturn, 1) := by decide +kernel
theorem dX10_endsLet_55 : decode cX10_endsLet 55 = .ok (.iload_n 2, 1) := by decide +kernel
theorem dX10_endsLet_56 : decode cX10_endsLet 56 = .ok (.ifCond .lt 18, 3) := by decide +kernel
theorem dX10_endsLet_59 : decode cX10_endsLet 59 = .ok (.aload_n 0, 1) := by decide +kernel
theorem dX10_endsLet_60 : decode cX10_endsLet 60 = .ok (.getfield 73, 3) := by decide +kernel
theorem dX10_endsLet_63 : decode cX10_endsLet 63 = .ok (.aload_n 0, 1) := by decide +kernel
theorem dX10_endsLet_64 : decode cX10_endsLet 64 = .ok (.getfield 118, 3) := by decide +kernel
theorem dX10_endsLet_67 : decode cX10_endsLet 67 = .ok (.iload_n 2, 1) := by decide +kernel
theorem dX10_endsLet_68 : decode cX10_endsLet 68 = .ok (.iaload, 1) := by decide +kernel
theorem dX10_endsLet_69 : decode cX10_endsLet 69 = .ok (.iaload, 1) := by decide +kernel
theorem dX10_endsLet_70 : decode cX10_endsLet 70 = .ok (.iconst 5, 1) := by decide +kernel
theorem dX10_endsLet_71 : decode cX10_endsLet 71 = .ok (.if_icmp .eq 5, 3) := by decide +kernel
theorem dX10_endsLet_76 : decode cX10_endsLet 76 = .ok (.aload_n 0, 1) := by decide +kernel
theorem dX10_endsLet_77 : decode cX10_endsLet 77 = .ok (.getfield 79, 3) := by decide +kernel
theorem dX10_endsLet_80 : decode cX10_endsLet 80 = .ok (.aload_n 0, 1) := by decide +kernel
theorem dX10_endsLet_81 : decode cX10_endsLet 81 = .ok (.getfield 118, 3) := by decide +kernel
theorem dX10_endsLet_84 : decode cX10_endsLet 84 = .ok (.iload_n 2, 1) := by decide +kernel
theorem dX10_endsLet_85 : decode cX10_endsLet 85 = .ok (.iaload, 1) := by decide +kernel
theorem dX10_endsLet_86 : decode cX10_endsLet 86 = .ok (.iaload, 1) := by decide +kernel
theorem dX10_endsLet_87 : decode cX10_endsLet 87 = .ok (.istore_n 3, 1) := by decide +kernel
theorem dX10_endsLet_88 : decode cX10_endsLet 88 = .ok (.aload_n 0, 1) := by decide +kernel
theorem dX10_endsLet_89 : decode cX10_endsLet 89 = .ok (.iload_n 2, 1) := by decide +kernel
theorem dX10_endsLet_90 : decode cX10_endsLet 90 = .ok (.putfield 293, 3) := by decide +kernel
theorem dX10_endsLet_93 : decode cX10_endsLet 93 = .ok (.aload_n 0, 1) := by decide +kernel
theorem dX10_endsLet_94 : decode cX10_endsLet 94 = .ok (.getfield 64, 3) := by decide +kernel
theorem dX10_endsLet_97 : decode cX10_endsLet 97 = .ok (.iload_n 1, 1) := by decide +kernel
theorem dX10_endsLet_98 : decode cX10_endsLet 98 = .ok (.iload_n 3, 1) := by decide +kernel
theorem dX10_endsLet_99 : decode cX10_endsLet 99 = .ok (.iastore, 1) := by decide +kernel
theorem dX10_endsLet_100 : decode cX10_endsLet 100 = .ok (.aload_n 0, 1) := by decide +kernel
theorem dX10_endsLet_101 : decode cX10_endsLet 101 = .ok (.iload_n 3, 1) := by decide +kernel
theorem dX10_endsLet_102 : decode cX10_endsLet 102 = .ok (.iload_n 1, 1) := by decide +kernel
theorem dX10_endsLet_103 : decode cX10_endsLet 103 = .ok (.invokevirtual 284, 3) := by decide +kernel
theorem dX10_endsLet_106 : decode cX10_endsLet 106 = .ok (.iconst 1, 1) := by decide +kernel
theorem dX10_endsLet_107 : decode cX10_endsLet 107 = .ok (.ireturn, 1) := by decide +kernel
theorem dX10_endsLet_11 : decode cX10_endsLet 11 = .ok (.aload_n 0, 1) := by decide +kernel
theorem dX10_endsLet_12 : decode cX10_endsLet 12 = .ok (.getfield 73, 3) := by decide +kernel
theorem dX10_endsLet_15 : decode cX10_endsLet 15 = .ok (.aload_n 0, 1) := by decide +kernel
theorem dX10_endsLet_16 : decode cX10_endsLet 16 = .ok (.getfield 118, 3) := by decide +kernel
theorem dX10_endsLet_19 : decode cX10_endsLet 19 = .ok (.iload_n 2, 1) := by decide +kernel
theorem dX10_endsLet_20 : decode cX10_endsLet 20 = .ok (.iaload, 1) := by decide +kernel
theorem dX10_endsLet_21 : decode cX10_endsLet 21 = .ok (.iaload, 1) := by decide +kernel
theorem dX10_endsLet_22 : decode cX10_endsLet 22 = .ok (.iconst 5, 1) := by decide +kernel
theorem dX10_endsLet_23 : decode cX10_endsLet 23 = .ok (.if_icmp .eq 24, 3) := by decide +kernel
theorem dX10_endsLet_26 : decode cX10_endsLet 26 = .ok (.aload_n 0, 1) := by decide +kernel
theorem dX10_endsLet_27 : decode cX10_endsLet 27 = .ok (.getfield 73, 3) := by decide +kernel
theorem dX10_endsLet_30 : decode cX10_endsLet 30 = .ok (.aload_n 0, 1) := by decide +kernel
theorem dX10_endsLet_31 : decode cX10_endsLet 31 = .ok (.getfield 118, 3) := by decide +kernel
theorem dX10_endsLet_34 : decode cX10_endsLet 34 = .ok (.iload_n 2, 1) := by decide +kernel
theorem dX10_endsLet_35 : decode cX10_endsLet 35 = .ok (.iaload, 1) := by decide +kernel
theorem dX10_endsLet_36 : decode cX10_endsLet 36 = .ok (.iaload, 1) := by decide +kernel
theorem dX10_endsLet_37 : decode cX10_endsLet 37 = .ok (.iconst 4, 1) := by decide +kernel
theorem dX10_endsLet_38 : decode cX10_endsLet 38 = .ok (.if_icmp .eq 9, 3) := by decide +kernel
theorem dX10_endsLet_41 : decode cX10_endsLet 41 = .ok (.iinc 2 (-1), 3) := by decide +kernel
theorem dX10_endsLet_44 : decode cX10_endsLet 44 = .ok (.goto (-37), 3) := by decide +kernel
theorem dX10_endsLet_0 : decode cX10_endsLet 0 = .ok (.aload_n 0, 1) := by decide +kernel
theorem dX10_endsLet_1 : decode cX10_endsLet 1 = .ok (.getfield 293, 3) := by decide +kernel
theorem dX10_endsLet_4 : decode cX10_endsLet 4 = .ok (.iconst 1, 1) := by decide +kernel
theorem dX10_endsLet_5 : decode cX10_endsLet 5 = .ok (.isub, 1) := by decide +kernel
theorem dX10_endsLet_6 : decode cX10_endsLet 6 = .ok (.istore_n 2, 1) := by decide +kernel
theorem dX10_opens_0 : decode cX10_opens 0 = .ok (.aload_n 0, 1) := by decide +kernel
theorem dX10_opens_1 : decode cX10_opens 1 = .ok (.iload_n 2, 1) := by decide +kernel
theorem dX10_opens_2 : decode cX10_opens 2 = .ok (.invokevirtual 307, 3) := by decide +kernel
theorem dX10_opens_5 : decode cX10_opens 5 = .ok (.ifCond .ne 14, 3) := by decide +kernel
theorem dX10_opens_19 : decode cX10_opens 19 = .ok (.iconst 1, 1) := by decide +kernel
theorem dX10_opens_20 : decode cX10_opens 20 = .ok (.goto 4, 3) := by decide +kernel
theorem dX10_opens_24 : decode cX10_opens 24 = .ok (.istore_n 3, 1) := by decide +kernel
theorem dX10_opens_25 : decode cX10_opens 25 = .ok (.aload_n 0, 1) := by decide +kernel
theorem dX10_opens_26 : decode cX10_opens 26 = .ok (.getfield 54, 3) := by decide +kernel
theorem dX10_opens_29 : decode cX10_opens 29 = .ok (.iload_n 2, 1) := by decide +kernel
theorem dX10_opens_30 : decode cX10_opens 30 = .ok (.iaload, 1) := by decide +kernel
theorem dX10_opens_31 : decode cX10_opens 31 = .ok (.aload_n 0, 1) := by decide +kernel
theorem dX10_opens_32 : decode cX10_opens 32 = .ok (.getfield 76, 3) := by decide +kernel
theorem dX10_opens_35 : decode cX10_opens 35 = .ok (.aload_n 0, 1) := by decide +kernel
theorem dX10_opens_36 : decode cX10_opens 36 = .ok (.invokevirtual 296, 3) := by decide +kernel
theorem dX10_opens_39 : decode cX10_opens 39 = .ok (.iaload, 1) := by decide +kernel
theorem dX10_opens_40 : decode cX10_opens 40 = .ok (.if_icmp .le 11, 3) := by decide +kernel
theorem dX10_opens_51 : decode cX10_opens 51 = .ok (.iconst 0, 1) := by decide +kernel
theorem dX10_opens_52 : decode cX10_opens 52 = .ok (.istore 4, 2) := by decide +kernel
theorem dX10_opens_54 : decode cX10_opens 54 = .ok (.iload_n 1, 1) := by decide +kernel
theorem dX10_opens_55 : decode cX10_opens 55 = .ok (.iconst 1, 1) := by decide +kernel
theorem dX10_opens_56 : decode cX10_opens 56 = .ok (.if_icmp .ne 42, 3) := by decide +kernel
theorem dX10_opens_98 : decode cX10_opens 98 = .ok (.iload 4, 2) := by decide +kernel
theorem dX10_opens_100 : decode cX10_opens 100 = .ok (.ifCond .ne 26, 3) := by decide +kernel
theorem dX10_opens_103 : decode cX10_opens 103 = .ok (.aload_n 0, 1) := by decide +kernel
theorem dX10_opens_104 : decode cX10_opens 104 = .ok (.iload_n 1, 1) := by decide +kernel
theorem dX10_opens_105 : decode cX10_opens 105 = .ok (.bipush (-9), 2) := by decide +kernel
theorem dX10_opens_107 : decode cX10_opens 107 = .ok (.aload_n 0, 1) := by decide +kernel
theorem dX10_opens_108 : decode cX10_opens 108 = .ok (.getfield 91, 3) := by decide +kernel
theorem dX10_opens_111 : decode cX10_opens 111 = .ok (.aload_n 0, 1) := by decide +kernel
theorem dX10_opens_112 : decode cX10_opens 112 = .ok (.invokevirtual 296, 3) := by decide +kernel
theorem dX10_opens_115 : decode cX10_opens 115 = .ok (.iaload, 1) := by decide +kernel
theorem dX10_opens_116 : decode cX10_opens 116 = .ok (.iload_n 2, 1) := by decide +kernel
theorem dX10_opens_117 : decode cX10_opens 117 = .ok (.iconst 1, 1) := by decide +kernel
theorem dX10_opens_118 : decode cX10_opens 118 = .ok (.isub, 1) := by decide +kernel
theorem dX10_opens_119 : decode cX10_opens 119 = .ok (.invokevirtual 299, 3) := by decide +kernel
theorem dX10_opens_122 : decode cX10_opens 122 = .ok (.istore 5, 2) := by decide +kernel
theorem dX10_opens_124 : decode cX10_opens 124 = .ok (.iconst 0, 1) := by decide +kernel
theorem dX10_opens_125 : decode cX10_opens 125 = .ok (.ireturn, 1) := by decide +kernel
theorem dX10_opens_59 : decode cX10_opens 59 = .ok (.iload 4, 2) := by decide +kernel
theorem dX10_opens_61 : decode cX10_opens 61 = .ok (.ifCond .eq 25, 3) := by decide +kernel
theorem dX10_opens_86 : decode cX10_opens 86 = .ok (.aload_n 0, 1) := by decide +kernel
theorem dX10_opens_87 : decode cX10_opens 87 = .ok (.iconst 3, 1) := by decide +kernel
theorem dX10_opens_88 : decode cX10_opens 88 = .ok (.aload_n 0, 1) := by decide +kernel
theorem dX10_opens_89 : decode cX10_opens 89 = .ok (.getfield 45, 3) := by decide +kernel
theorem dX10_opens_92 : decode cX10_opens 92 = .ok (.iload_n 2, 1) := by decide +kernel
theorem dX10_opens_93 : decode cX10_opens 93 = .ok (.iaload, 1) := by decide +kernel
theorem dX10_opens_94 : decode cX10_opens 94 = .ok (.invokevirtual 254, 3) := by decide +kernel
theorem dX10_opens_97 : decode cX10_opens 97 = .ok (.ireturn, 1) := by decide +kernel
theorem dX10_opens_43 : decode cX10_opens 43 = .ok (.iload_n 3, 1) := by decide +kernel
theorem dX10_opens_44 : decode cX10_opens 44 = .ok (.ifCond .ne 7, 3) := by decide +kernel
theorem dX10_opens_8 : decode cX10_opens 8 = .ok (.aload_n 0, 1) := by decide +kernel
theorem dX10_opens_9 : decode cX10_opens 9 = .ok (.iload_n 2, 1) := by decide +kernel
theorem dX10_opens_10 : decode cX10_opens 10 = .ok (.iconst 0, 1) := by decide +kernel
theorem dX10_opens_11 : decode cX10_opens 11 = .ok (.invokevirtual 310, 3) := by decide +kernel
theorem dX10_opens_14 : decode cX10_opens 14 = .ok (.bipush (-9), 2) := by decide +kernel
theorem dX10_opens_16 : decode cX10_opens 16 = .ok (.if_icmp .eq 7, 3) := by decide +kernel
theorem dX10_opens_23 : decode cX10_opens 23 = .ok (.iconst 0, 1) := by decide +kernel
theorem dX10_opens_47 : decode cX10_opens 47 = .ok (.iconst 1, 1) := by decide +kernel
theorem dX10_opens_48 : decode cX10_opens 48 = .ok (.goto 4, 3) := by decide +kernel
theorem dX10_opens_126 : decode cX10_opens 126 = .ok (.aload_n 0, 1) := by decide +kernel
theorem dX10_opens_127 : decode cX10_opens 127 = .ok (.iload_n 1, 1) := by decide +kernel
theorem dX10_opens_128 : decode cX10_opens 128 = .ok (.aload_n 0, 1) := by decide +kernel
theorem dX10_opens_129 : decode cX10_opens 129 = .ok (.getfield 54, 3) := by decide +kernel
theorem dX10_opens_132 : decode cX10_opens 132 = .ok (.iload_n 2, 1) := by decide +kernel
theorem dX10_opens_133 : decode cX10_opens 133 = .ok (.iaload, 1) := by decide +kernel
theorem dX10_opens_134 : decode cX10_opens 134 = .ok (.iload_n 2, 1) := by decide +kernel
theorem dX10_opens_135 : decode cX10_opens 135 = .ok (.iconst 1, 1) := by decide +kernel
theorem dX10_opens_136 : decode cX10_opens 136 = .ok (.isub, 1) := by decide +kernel
theorem dX10_opens_137 : decode cX10_opens 137 = .ok (.invokevirtual 316, 3) := by decide +kernel
theorem dX10_opens_140 : decode cX10_opens 140 = .ok (.aload_n 0, 1) := by decide +kernel
theorem dX10_opens_141 : decode cX10_opens 141 = .ok (.iload_n 2, 1) := by decide +kernel
theorem dX10_opens_142 : decode cX10_opens 142 = .ok (.invokevirtual 320, 3) := by decide +kernel
theorem dX10_opens_145 : decode cX10_opens 145 = .ok (.iconst 1, 1) := by decide +kernel
theorem dX10_opens_146 : decode cX10_opens 146 = .ok (.ireturn, 1) := by decide +kernel
theorem dX10_opens_64 : decode cX10_opens 64 = .ok (.aload_n 0, 1) := by decide +kernel
theorem dX10_opens_65 : decode cX10_opens 65 = .ok (.getfield 57, 3) := by decide +kernel
theorem dX10_opens_68 : decode cX10_opens 68 = .ok (.iload_n 2, 1) := by decide +kernel
theorem dX10_opens_69 : decode cX10_opens 69 = .ok (.baload, 1) := by decide +kernel
theorem dX10_opens_70 : decode cX10_opens 70 = .ok (.ifCond .eq 16, 3) := by decide +kernel
theorem dX10_opens_73 : decode cX10_opens 73 = .ok (.aload_n 0, 1) := by decide +kernel
theorem dX10_opens_74 : decode cX10_opens 74 = .ok (.getfield 54, 3) := by decide +kernel
theorem dX10_opens_77 : decode cX10_opens 77 = .ok (.iload_n 2, 1) := by decide +kernel
theorem dX10_opens_78 : decode cX10_opens 78 = .ok (.iaload, 1) := by decide +kernel
theorem dX10_opens_79 : decode cX10_opens 79 = .ok (.aload_n 0, 1) := by decide +kernel
theorem dX10_opens_80 : decode cX10_opens 80 = .ok (.getfield 313, 3) := by decide +kernel
theorem dX10_opens_83 : decode cX10_opens 83 = .ok (.if_icmp .gt 43, 3) := by decide +kernel
set_option maxHeartbeats 4000000 in
set_option maxRecDepth 100000 in
theorem m_endsLet (l : Launch) (D : va_G) (tA : Nat → ClassId) (b : Nat) (i F : Nat → Nat → Int32) (G : Nat → Nat → Int64) (x : Int32) (k : Int) (hT : TMm i F) (hP : PMm k i F) (hBR : BR i) (hk1 : 0 < k ∨ (i 78 51).toInt = 1) (hx6 : 0 ≤ x.toInt ∧ x.toInt < 600) (hpm : (i 78 47).toInt < 1802) : xMI l yX10_endsLet cX10_endsLet 4 (some .boolean) 1 23 D tA b 78 52 i F G [.ref (b + 78), .int x] (fun r u => RO [47, 51] [95, 108, 109, 110, 111, 112] i F G u ∧ TMm u.1 u.2.1 ∧ PMm k u.1 u.2.1 ∧ (r = 0 ∨ r = 1) ∧ (r = 0 → u.1 78 47 = i 78 47 ∧ u.1 78 51 = i 78 51) ∧ (u.1 78 47).toInt ≤ (i 78 47).toInt + 1 ∧ (r = 1 → 0 < k)) := by
  refine xstart RX10 rfl (by decide) (Nat.le_of_ble_eq_true rfl) ?_
  intro p e s m below meth c ls C0 hr hH hS hl
  have hl : lv_has ls 4 [(0, .ref (b + 78)), (1, .int x)] := hl
  have rg_x := fb_rng x
  have hTL := TMm.lin hT
  have hPl := hP.1
  have L7 : ∀ (d : Nat) (q : Int32) (H : Heap) (locs : List Loc) (ls : Array Slot), (-1 ≤ q.toInt ∧ q.toInt < (i 78 51).toInt) → (q.toInt + 1 ≤ d) → Hd D tA b 78 52 zz i F G H → va_S (xA b 78 52) s.heap H locs → lv_has ls 4 [(2, .int q), (0, .ref (b + 78)), (1, .int x)] → W p l e (xR 1 23) s m ([.ref (b + 78), .int x] : List Value).toArray below meth c H locs 0 0 (MQ below (va_Qi (fun r u => RO [47, 51] [95, 108, 109, 110, 111, 112] i F G u ∧ TMm u.1 u.2.1 ∧ PMm k u.1 u.2.1 ∧ (r = 0 ∨ r = 1) ∧ (r = 0 → u.1 78 47 = i 78 47 ∧ u.1 78 51 = i 78 51) ∧ (u.1 78 47).toInt ≤ (i 78 47).toInt + 1 ∧ (r = 1 → 0 < k)) (xB D tA b 78 52 zz) (xA b 78 52)) ([.ref (b + 78), .int x] : List Value).toArray s 0 0 (xA b 78 52)) (F0 m 7 ls []) := by
    intro d
    induction d with
    | zero =>
      intro q H locs ls h1 h2 hH hS hl
      have rg_q := fb_rng q
      refine lv_iload_n (pc := 7) C0.1 C0.2.1 dX10_endsLet_7 rfl (lv_at hl 0 rfl) ?_
      have : Int32.toInt 0 = 0 := rfl
      refine lv_if_lt (pc := 8) (tgt := 47) C0.1 C0.2.1 dX10_endsLet_8 (by decide) (fun _ => ?_) (fun c => absurd (Int32.lt_iff_toInt_lt.mpr (by omega)) c)
      refine lv_aload_n (pc := 47) C0.1 C0.2.1 dX10_endsLet_47 rfl (lv_at hl 1 rfl) ?_
      refine lv_iload_n (pc := 48) C0.1 C0.2.1 dX10_endsLet_48 rfl (lv_at hl 2 rfl) ?_
      refine xcVI (pc := 49) 78 [.int x] (m_isCloser l D tA b i F G x hBR (by omega)) C0 hH hS clX10 rfl ⟨⟨Nat.le_of_ble_eq_true rfl, Nat.le_of_ble_eq_true rfl⟩, rfl, rfl⟩ cw_X10_307 rfl ⟨Nat.le_of_ble_eq_true rfl, Nat.le_of_ble_eq_true rfl⟩ hl.1 rfl (Nat.le_of_ble_eq_true rfl) dX10_endsLet_49 ⟨Nat.le_of_ble_eq_true rfl, Nat.le_of_ble_eq_true rfl⟩ (fun r201 ir201 Fr201 Gr201 _ locs hp hH hS => ?_)
      obtain ⟨hu, hpr201⟩ := hp
      cases hu
      refine lv_if_eq (pc := 52) (tgt := 74) C0.1 C0.2.1 dX10_endsLet_52 (by decide) (fun c202 => ?_) (fun c202 => ?_)
      · have : Int32.toInt 0 = 0 := rfl
        have c202 := congrArg Int32.toInt c202
        refine lv_iconst (pc := 74) (v := 0) C0.1 C0.2.1 dX10_endsLet_74 (by decide) ?_
        exact xzret (pc := 75) C0 hr hH hS dX10_endsLet_75 (by decide) ⟨RO.rf, hT, hP, Or.inl rfl, fun _ => ⟨rfl, rfl⟩, (show Int32.toInt (i 78 47) ≤ _ from by omega), fun q => absurd q (by decide)⟩
      · have : Int32.toInt 0 = 0 := rfl
        have c202 : ¬ _ := fun q => c202 (Int32.toInt_inj.mp q)
        refine lv_iload_n (pc := 55) C0.1 C0.2.1 dX10_endsLet_55 rfl (lv_at hl 0 rfl) ?_
        refine lv_if_lt (pc := 56) (tgt := 74) C0.1 C0.2.1 dX10_endsLet_56 (by decide) (fun c203 => ?_) (fun c203 => ?_)
        · have : Int32.toInt 0 = 0 := rfl
          have c203 := Int32.lt_iff_toInt_lt.mp c203
          refine lv_iconst (pc := 74) (v := 0) C0.1 C0.2.1 dX10_endsLet_74 (by decide) ?_
          exact xzret (pc := 75) C0 hr hH hS dX10_endsLet_75 (by decide) ⟨RO.rf, hT, hP, Or.inl rfl, fun _ => ⟨rfl, rfl⟩, (show Int32.toInt (i 78 47) ≤ _ from by omega), fun q => absurd q (by decide)⟩
        · have : Int32.toInt 0 = 0 := rfl
          have c203 : ¬ _ := fun q => c203 (Int32.lt_iff_toInt_lt.mpr q)
          refine lv_aload_n (pc := 59) C0.1 C0.2.1 dX10_endsLet_59 rfl (lv_at hl 1 rfl) ?_
          refine xget (pc := 60) C0 hH 78 33 clX10 ⟨Nat.le_of_ble_eq_true rfl, Nat.le_of_ble_eq_true rfl⟩ ⟨rfl, rfl⟩ (Nat.le_of_ble_eq_true rfl) fl_X10_73 (v := .ref (b + 98)) rfl dX10_endsLet_60 ?_
          refine lv_aload_n (pc := 63) C0.1 C0.2.1 dX10_endsLet_63 rfl (lv_at hl 1 rfl) ?_
          refine xget (pc := 64) C0 hH 78 50 clX10 ⟨Nat.le_of_ble_eq_true rfl, Nat.le_of_ble_eq_true rfl⟩ ⟨rfl, rfl⟩ (Nat.le_of_ble_eq_true rfl) fl_X10_118 (v := .ref (b + 113)) rfl dX10_endsLet_64 ?_
          refine lv_iload_n (pc := 67) C0.1 C0.2.1 dX10_endsLet_67 rfl (lv_at hl 0 rfl) ?_
          refine xiald (pc := 68) (N := 1202) C0 hH 113 ⟨Nat.le_of_ble_eq_true rfl, Nat.le_of_ble_eq_true rfl⟩ ⟨rfl, rfl⟩ (vI (by omega) (by omega)) dX10_endsLet_68 ?_
          refine xiald (pc := 69) (N := 1202) C0 hH 98 ⟨Nat.le_of_ble_eq_true rfl, Nat.le_of_ble_eq_true rfl⟩ ⟨rfl, rfl⟩ (vI (PMm.lt hP (x := q) (by omega)).1.1 (by have := (PMm.lt hP (x := q) (by omega)).1.2; omega)) dX10_endsLet_69 ?_
          refine lv_iconst (pc := 70) (v := 5) C0.1 C0.2.1 dX10_endsLet_70 (by decide) ?_
          refine lv_icmp_eq (pc := 71) (tgt := 76) C0.1 C0.2.1 dX10_endsLet_71 (by decide) (fun c204 => ?_) (fun c204 => ?_)
          · have : Int32.toInt 5 = 5 := rfl
            have c204 := congrArg Int32.toInt c204
            have hpl := PMm.lt hP (x := q) (by omega)
            have hk5 : Int32.toInt (F 98 (Int32.toNatClampNeg (F 113 (Int32.toNatClampNeg q)))) = Int32.toInt 5 := (by assumption)
            have hb0 : ¬ (F 113 (Int32.toNatClampNeg q)) = 0 := fun q => by rw [q, show Int32.toNatClampNeg 0 = 0 from rfl, hP.2.2.2.1] at hk5; exact absurd hk5 (by decide)
            have hb0I : ¬ Int32.toInt (F 113 (Int32.toNatClampNeg q)) = 0 := fun q => hb0 (Int32.toInt_inj.mp q)
            have hp0 : ¬ Int32.toInt q = 0 := fun q => hb0 (hpl.2 q)
            have hpt := TMm.pt hT (x := F 113 (Int32.toNatClampNeg q)) (by omega)
            refine lv_aload_n (pc := 76) C0.1 C0.2.1 dX10_endsLet_76 rfl (lv_at hl 1 rfl) ?_
            refine xget (pc := 77) C0 hH 78 35 clX10 ⟨Nat.le_of_ble_eq_true rfl, Nat.le_of_ble_eq_true rfl⟩ ⟨rfl, rfl⟩ (Nat.le_of_ble_eq_true rfl) fl_X10_79 (v := .ref (b + 100)) rfl dX10_endsLet_77 ?_
            refine lv_aload_n (pc := 80) C0.1 C0.2.1 dX10_endsLet_80 rfl (lv_at hl 1 rfl) ?_
            refine xget (pc := 81) C0 hH 78 50 clX10 ⟨Nat.le_of_ble_eq_true rfl, Nat.le_of_ble_eq_true rfl⟩ ⟨rfl, rfl⟩ (Nat.le_of_ble_eq_true rfl) fl_X10_118 (v := .ref (b + 113)) rfl dX10_endsLet_81 ?_
            refine lv_iload_n (pc := 84) C0.1 C0.2.1 dX10_endsLet_84 rfl (lv_at hl 0 rfl) ?_
            refine xiald (pc := 85) (N := 1202) C0 hH 113 ⟨Nat.le_of_ble_eq_true rfl, Nat.le_of_ble_eq_true rfl⟩ ⟨rfl, rfl⟩ (vI (by omega) (by omega)) dX10_endsLet_85 ?_
            refine xiald (pc := 86) (N := 1202) C0 hH 100 ⟨Nat.le_of_ble_eq_true rfl, Nat.le_of_ble_eq_true rfl⟩ ⟨rfl, rfl⟩ (vI (by omega) (by omega)) dX10_endsLet_86 ?_
            refine lv_topi (fun x205 ex205 => ?_)
            refine lv_istore_n (pc := 87) (lv' := [(3, .int x205), (2, .int q), (0, .ref (b + 78)), (1, .int x)]) C0.1 C0.2.1 dX10_endsLet_87 rfl hl (by decide) rfl (fun ls hl => ?_)
            refine lv_aload_n (pc := 88) C0.1 C0.2.1 dX10_endsLet_88 rfl (lv_at hl 2 rfl) ?_
            refine lv_iload_n (pc := 89) C0.1 C0.2.1 dX10_endsLet_89 rfl (lv_at hl 1 rfl) ?_
            refine xputI (pc := 90) C0 (Nat.le_of_ble_eq_true rfl) hH hS 78 51 clX10 ⟨Nat.le_of_ble_eq_true rfl, Nat.le_of_ble_eq_true rfl⟩ ⟨rfl, rfl⟩ ⟨Nat.le_of_ble_eq_true rfl, rfl, rfl⟩ fl_X10_293 (x := q) ⟨rfl, rfl⟩ dX10_endsLet_90 (fun _ locs hH hS _ => ?_)
            have hH : Hd D tA b 78 52 zz (up2 i 78 51 q) F G _ := hH
            have hP : PMm k (up2 i 78 51 q) F := PMm.top hP (by omega)
            refine lv_aload_n (pc := 93) C0.1 C0.2.1 dX10_endsLet_93 rfl (lv_at hl 2 rfl) ?_
            refine xget (pc := 94) C0 hH 78 27 clX10 ⟨Nat.le_of_ble_eq_true rfl, Nat.le_of_ble_eq_true rfl⟩ ⟨rfl, rfl⟩ (Nat.le_of_ble_eq_true rfl) fl_X10_64 (v := .ref (b + 95)) rfl dX10_endsLet_94 ?_
            refine lv_iload_n (pc := 97) C0.1 C0.2.1 dX10_endsLet_97 rfl (lv_at hl 3 rfl) ?_
            refine lv_iload_n (pc := 98) C0.1 C0.2.1 dX10_endsLet_98 rfl (lv_at hl 0 rfl) ?_
            refine xiast (pc := 99) (N := 600) C0 (Nat.le_of_ble_eq_true rfl) hH hS 95 ⟨Nat.le_of_ble_eq_true rfl, Nat.le_of_ble_eq_true rfl⟩ ⟨rfl, rfl⟩ (vI (by omega) (by omega)) dX10_endsLet_99 (fun _ locs hH hS _ => ?_)
            have hH : Hd D tA b 78 52 zz (up2 i 78 51 q) (va_up F 95 (upd (F 95) (Int32.toNatClampNeg x) x205)) G _ := hH
            have eit := congrArg Int32.toInt ex205
            have hT : TMm (up2 i 78 51 q) (va_up F 95 (upd (F 95) (Int32.toNatClampNeg x) x205)) := TMm.io hT (show 0 ≤ Int32.toInt x205 ∧ Int32.toInt x205 < 1202 from by omega)
            refine lv_aload_n (pc := 100) C0.1 C0.2.1 dX10_endsLet_100 rfl (lv_at hl 2 rfl) ?_
            refine lv_iload_n (pc := 101) C0.1 C0.2.1 dX10_endsLet_101 rfl (lv_at hl 0 rfl) ?_
            refine lv_iload_n (pc := 102) C0.1 C0.2.1 dX10_endsLet_102 rfl (lv_at hl 3 rfl) ?_
            refine xcVV (pc := 103) 78 [.int x205, .int x] (m_hang l D tA b (up2 i 78 51 q) (va_up F 95 (upd (F 95) (Int32.toNatClampNeg x) x205)) G x205 x hT (show 0 ≤ Int32.toInt x205 ∧ Int32.toInt x205 < Int32.toInt (i 78 40) from by omega) (show Int32.toInt (i 78 47) < 1802 from by omega) (Or.inl (by omega))) C0 hH hS clX10 rfl ⟨⟨Nat.le_of_ble_eq_true rfl, Nat.le_of_ble_eq_true rfl⟩, rfl, rfl⟩ cw_X10_284 rfl ⟨Nat.le_of_ble_eq_true rfl, Nat.le_of_ble_eq_true rfl⟩ hl.1 rfl (Nat.le_of_ble_eq_true rfl) dX10_endsLet_103 ⟨Nat.le_of_ble_eq_true rfl, Nat.le_of_ble_eq_true rfl⟩ (fun ir206 Fr206 Gr206 _ locs hp hH hS => ?_)
            obtain ⟨honr206, hT, hptr206⟩ := hp
            have hT : TMm ir206 Fr206 := hT
            have hptr206 : (ir206 78 47).toInt = Int32.toInt (i 78 47) + 1 := hptr206
            have hTL := TMm.lin hT
            have hP : PMm k ir206 Fr206 := PMm.ro (i := (up2 i 78 51 q)) (F := (va_up F 95 (upd (F 95) (Int32.toNatClampNeg x) x205))) hP honr206 (by decide) (by decide)
            refine lv_iconst (pc := 106) (v := 1) C0.1 C0.2.1 dX10_endsLet_106 (by decide) ?_
            exact xzret (pc := 107) C0 hr hH hS dX10_endsLet_107 (by decide) ⟨(RO.tr (RO.f (RO.i RO.rf (by decide)) (by decide)) honr206 (by decide) (by decide)), hT, hP, Or.inr rfl, fun q => absurd q (by decide), (show Int32.toInt (ir206 78 47) ≤ _ from by omega), fun _ => (by omega)⟩
          · have : Int32.toInt 5 = 5 := rfl
            have c204 : ¬ _ := fun q => c204 (Int32.toInt_inj.mp q)
            refine lv_iconst (pc := 74) (v := 0) C0.1 C0.2.1 dX10_endsLet_74 (by decide) ?_
            exact xzret (pc := 75) C0 hr hH hS dX10_endsLet_75 (by decide) ⟨RO.rf, hT, hP, Or.inl rfl, fun _ => ⟨rfl, rfl⟩, (show Int32.toInt (i 78 47) ≤ _ from by omega), fun q => absurd q (by decide)⟩
    | succ d ih7 =>
      intro q H locs ls h1 h2 hH hS hl
      have rg_q := fb_rng q
      refine lv_iload_n (pc := 7) C0.1 C0.2.1 dX10_endsLet_7 rfl (lv_at hl 0 rfl) ?_
      refine lv_if_lt (pc := 8) (tgt := 47) C0.1 C0.2.1 dX10_endsLet_8 (by decide) (fun c201 => ?_) (fun c201 => ?_)
      · have : Int32.toInt 0 = 0 := rfl
        have c201 := Int32.lt_iff_toInt_lt.mp c201
        refine lv_aload_n (pc := 47) C0.1 C0.2.1 dX10_endsLet_47 rfl (lv_at hl 1 rfl) ?_
        refine lv_iload_n (pc := 48) C0.1 C0.2.1 dX10_endsLet_48 rfl (lv_at hl 2 rfl) ?_
        refine xcVI (pc := 49) 78 [.int x] (m_isCloser l D tA b i F G x hBR (by omega)) C0 hH hS clX10 rfl ⟨⟨Nat.le_of_ble_eq_true rfl, Nat.le_of_ble_eq_true rfl⟩, rfl, rfl⟩ cw_X10_307 rfl ⟨Nat.le_of_ble_eq_true rfl, Nat.le_of_ble_eq_true rfl⟩ hl.1 rfl (Nat.le_of_ble_eq_true rfl) dX10_endsLet_49 ⟨Nat.le_of_ble_eq_true rfl, Nat.le_of_ble_eq_true rfl⟩ (fun r202 ir202 Fr202 Gr202 _ locs hp hH hS => ?_)
        obtain ⟨hu, hpr202⟩ := hp
        cases hu
        refine lv_if_eq (pc := 52) (tgt := 74) C0.1 C0.2.1 dX10_endsLet_52 (by decide) (fun c203 => ?_) (fun c203 => ?_)
        · have : Int32.toInt 0 = 0 := rfl
          have c203 := congrArg Int32.toInt c203
          refine lv_iconst (pc := 74) (v := 0) C0.1 C0.2.1 dX10_endsLet_74 (by decide) ?_
          exact xzret (pc := 75) C0 hr hH hS dX10_endsLet_75 (by decide) ⟨RO.rf, hT, hP, Or.inl rfl, fun _ => ⟨rfl, rfl⟩, (show Int32.toInt (i 78 47) ≤ _ from by omega), fun q => absurd q (by decide)⟩
        · have : Int32.toInt 0 = 0 := rfl
          have c203 : ¬ _ := fun q => c203 (Int32.toInt_inj.mp q)
          refine lv_iload_n (pc := 55) C0.1 C0.2.1 dX10_endsLet_55 rfl (lv_at hl 0 rfl) ?_
          refine lv_if_lt (pc := 56) (tgt := 74) C0.1 C0.2.1 dX10_endsLet_56 (by decide) (fun c204 => ?_) (fun c204 => ?_)
          · have : Int32.toInt 0 = 0 := rfl
            have c204 := Int32.lt_iff_toInt_lt.mp c204
            refine lv_iconst (pc := 74) (v := 0) C0.1 C0.2.1 dX10_endsLet_74 (by decide) ?_
            exact xzret (pc := 75) C0 hr hH hS dX10_endsLet_75 (by decide) ⟨RO.rf, hT, hP, Or.inl rfl, fun _ => ⟨rfl, rfl⟩, (show Int32.toInt (i 78 47) ≤ _ from by omega), fun q => absurd q (by decide)⟩
          · have : Int32.toInt 0 = 0 := rfl
            have c204 : ¬ _ := fun q => c204 (Int32.lt_iff_toInt_lt.mpr q)
            refine lv_aload_n (pc := 59) C0.1 C0.2.1 dX10_endsLet_59 rfl (lv_at hl 1 rfl) ?_
            refine xget (pc := 60) C0 hH 78 33 clX10 ⟨Nat.le_of_ble_eq_true rfl, Nat.le_of_ble_eq_true rfl⟩ ⟨rfl, rfl⟩ (Nat.le_of_ble_eq_true rfl) fl_X10_73 (v := .ref (b + 98)) rfl dX10_endsLet_60 ?_
            refine lv_aload_n (pc := 63) C0.1 C0.2.1 dX10_endsLet_63 rfl (lv_at hl 1 rfl) ?_
            refine xget (pc := 64) C0 hH 78 50 clX10 ⟨Nat.le_of_ble_eq_true rfl, Nat.le_of_ble_eq_true rfl⟩ ⟨rfl, rfl⟩ (Nat.le_of_ble_eq_true rfl) fl_X10_118 (v := .ref (b + 113)) rfl dX10_endsLet_64 ?_
            refine lv_iload_n (pc := 67) C0.1 C0.2.1 dX10_endsLet_67 rfl (lv_at hl 0 rfl) ?_
            refine xiald (pc := 68) (N := 1202) C0 hH 113 ⟨Nat.le_of_ble_eq_true rfl, Nat.le_of_ble_eq_true rfl⟩ ⟨rfl, rfl⟩ (vI (by omega) (by omega)) dX10_endsLet_68 ?_
            refine xiald (pc := 69) (N := 1202) C0 hH 98 ⟨Nat.le_of_ble_eq_true rfl, Nat.le_of_ble_eq_true rfl⟩ ⟨rfl, rfl⟩ (vI (PMm.lt hP (x := q) (by omega)).1.1 (by have := (PMm.lt hP (x := q) (by omega)).1.2; omega)) dX10_endsLet_69 ?_
            refine lv_iconst (pc := 70) (v := 5) C0.1 C0.2.1 dX10_endsLet_70 (by decide) ?_
            refine lv_icmp_eq (pc := 71) (tgt := 76) C0.1 C0.2.1 dX10_endsLet_71 (by decide) (fun c205 => ?_) (fun c205 => ?_)
            · have : Int32.toInt 5 = 5 := rfl
              have c205 := congrArg Int32.toInt c205
              have hpl := PMm.lt hP (x := q) (by omega)
              have hk5 : Int32.toInt (F 98 (Int32.toNatClampNeg (F 113 (Int32.toNatClampNeg q)))) = Int32.toInt 5 := (by assumption)
              have hb0 : ¬ (F 113 (Int32.toNatClampNeg q)) = 0 := fun q => by rw [q, show Int32.toNatClampNeg 0 = 0 from rfl, hP.2.2.2.1] at hk5; exact absurd hk5 (by decide)
              have hb0I : ¬ Int32.toInt (F 113 (Int32.toNatClampNeg q)) = 0 := fun q => hb0 (Int32.toInt_inj.mp q)
              have hp0 : ¬ Int32.toInt q = 0 := fun q => hb0 (hpl.2 q)
              have hpt := TMm.pt hT (x := F 113 (Int32.toNatClampNeg q)) (by omega)
              refine lv_aload_n (pc := 76) C0.1 C0.2.1 dX10_endsLet_76 rfl (lv_at hl 1 rfl) ?_
              refine xget (pc := 77) C0 hH 78 35 clX10 ⟨Nat.le_of_ble_eq_true rfl, Nat.le_of_ble_eq_true rfl⟩ ⟨rfl, rfl⟩ (Nat.le_of_ble_eq_true rfl) fl_X10_79 (v := .ref (b + 100)) rfl dX10_endsLet_77 ?_
              refine lv_aload_n (pc := 80) C0.1 C0.2.1 dX10_endsLet_80 rfl (lv_at hl 1 rfl) ?_
              refine xget (pc := 81) C0 hH 78 50 clX10 ⟨Nat.le_of_ble_eq_true rfl, Nat.le_of_ble_eq_true rfl⟩ ⟨rfl, rfl⟩ (Nat.le_of_ble_eq_true rfl) fl_X10_118 (v := .ref (b + 113)) rfl dX10_endsLet_81 ?_
              refine lv_iload_n (pc := 84) C0.1 C0.2.1 dX10_endsLet_84 rfl (lv_at hl 0 rfl) ?_
              refine xiald (pc := 85) (N := 1202) C0 hH 113 ⟨Nat.le_of_ble_eq_true rfl, Nat.le_of_ble_eq_true rfl⟩ ⟨rfl, rfl⟩ (vI (by omega) (by omega)) dX10_endsLet_85 ?_
              refine xiald (pc := 86) (N := 1202) C0 hH 100 ⟨Nat.le_of_ble_eq_true rfl, Nat.le_of_ble_eq_true rfl⟩ ⟨rfl, rfl⟩ (vI (by omega) (by omega)) dX10_endsLet_86 ?_
              refine lv_topi (fun x206 ex206 => ?_)
              refine lv_istore_n (pc := 87) (lv' := [(3, .int x206), (2, .int q), (0, .ref (b + 78)), (1, .int x)]) C0.1 C0.2.1 dX10_endsLet_87 rfl hl (by decide) rfl (fun ls hl => ?_)
              refine lv_aload_n (pc := 88) C0.1 C0.2.1 dX10_endsLet_88 rfl (lv_at hl 2 rfl) ?_
              refine lv_iload_n (pc := 89) C0.1 C0.2.1 dX10_endsLet_89 rfl (lv_at hl 1 rfl) ?_
              refine xputI (pc := 90) C0 (Nat.le_of_ble_eq_true rfl) hH hS 78 51 clX10 ⟨Nat.le_of_ble_eq_true rfl, Nat.le_of_ble_eq_true rfl⟩ ⟨rfl, rfl⟩ ⟨Nat.le_of_ble_eq_true rfl, rfl, rfl⟩ fl_X10_293 (x := q) ⟨rfl, rfl⟩ dX10_endsLet_90 (fun _ locs hH hS _ => ?_)
              have hH : Hd D tA b 78 52 zz (up2 i 78 51 q) F G _ := hH
              have hP : PMm k (up2 i 78 51 q) F := PMm.top hP (by omega)
              refine lv_aload_n (pc := 93) C0.1 C0.2.1 dX10_endsLet_93 rfl (lv_at hl 2 rfl) ?_
              refine xget (pc := 94) C0 hH 78 27 clX10 ⟨Nat.le_of_ble_eq_true rfl, Nat.le_of_ble_eq_true rfl⟩ ⟨rfl, rfl⟩ (Nat.le_of_ble_eq_true rfl) fl_X10_64 (v := .ref (b + 95)) rfl dX10_endsLet_94 ?_
              refine lv_iload_n (pc := 97) C0.1 C0.2.1 dX10_endsLet_97 rfl (lv_at hl 3 rfl) ?_
              refine lv_iload_n (pc := 98) C0.1 C0.2.1 dX10_endsLet_98 rfl (lv_at hl 0 rfl) ?_
              refine xiast (pc := 99) (N := 600) C0 (Nat.le_of_ble_eq_true rfl) hH hS 95 ⟨Nat.le_of_ble_eq_true rfl, Nat.le_of_ble_eq_true rfl⟩ ⟨rfl, rfl⟩ (vI (by omega) (by omega)) dX10_endsLet_99 (fun _ locs hH hS _ => ?_)
              have hH : Hd D tA b 78 52 zz (up2 i 78 51 q) (va_up F 95 (upd (F 95) (Int32.toNatClampNeg x) x206)) G _ := hH
              have eit := congrArg Int32.toInt ex206
              have hT : TMm (up2 i 78 51 q) (va_up F 95 (upd (F 95) (Int32.toNatClampNeg x) x206)) := TMm.io hT (show 0 ≤ Int32.toInt x206 ∧ Int32.toInt x206 < 1202 from by omega)
              refine lv_aload_n (pc := 100) C0.1 C0.2.1 dX10_endsLet_100 rfl (lv_at hl 2 rfl) ?_
              refine lv_iload_n (pc := 101) C0.1 C0.2.1 dX10_endsLet_101 rfl (lv_at hl 0 rfl) ?_
              refine lv_iload_n (pc := 102) C0.1 C0.2.1 dX10_endsLet_102 rfl (lv_at hl 3 rfl) ?_
              refine xcVV (pc := 103) 78 [.int x206, .int x] (m_hang l D tA b (up2 i 78 51 q) (va_up F 95 (upd (F 95) (Int32.toNatClampNeg x) x206)) G x206 x hT (show 0 ≤ Int32.toInt x206 ∧ Int32.toInt x206 < Int32.toInt (i 78 40) from by omega) (show Int32.toInt (i 78 47) < 1802 from by omega) (Or.inl (by omega))) C0 hH hS clX10 rfl ⟨⟨Nat.le_of_ble_eq_true rfl, Nat.le_of_ble_eq_true rfl⟩, rfl, rfl⟩ cw_X10_284 rfl ⟨Nat.le_of_ble_eq_true rfl, Nat.le_of_ble_eq_true rfl⟩ hl.1 rfl (Nat.le_of_ble_eq_true rfl) dX10_endsLet_103 ⟨Nat.le_of_ble_eq_true rfl, Nat.le_of_ble_eq_true rfl⟩ (fun ir207 Fr207 Gr207 _ locs hp hH hS => ?_)
              obtain ⟨honr207, hT, hptr207⟩ := hp
              have hT : TMm ir207 Fr207 := hT
              have hptr207 : (ir207 78 47).toInt = Int32.toInt (i 78 47) + 1 := hptr207
              have hTL := TMm.lin hT
              have hP : PMm k ir207 Fr207 := PMm.ro (i := (up2 i 78 51 q)) (F := (va_up F 95 (upd (F 95) (Int32.toNatClampNeg x) x206))) hP honr207 (by decide) (by decide)
              refine lv_iconst (pc := 106) (v := 1) C0.1 C0.2.1 dX10_endsLet_106 (by decide) ?_
              exact xzret (pc := 107) C0 hr hH hS dX10_endsLet_107 (by decide) ⟨(RO.tr (RO.f (RO.i RO.rf (by decide)) (by decide)) honr207 (by decide) (by decide)), hT, hP, Or.inr rfl, fun q => absurd q (by decide), (show Int32.toInt (ir207 78 47) ≤ _ from by omega), fun _ => (by omega)⟩
            · have : Int32.toInt 5 = 5 := rfl
              have c205 : ¬ _ := fun q => c205 (Int32.toInt_inj.mp q)
              refine lv_iconst (pc := 74) (v := 0) C0.1 C0.2.1 dX10_endsLet_74 (by decide) ?_
              exact xzret (pc := 75) C0 hr hH hS dX10_endsLet_75 (by decide) ⟨RO.rf, hT, hP, Or.inl rfl, fun _ => ⟨rfl, rfl⟩, (show Int32.toInt (i 78 47) ≤ _ from by omega), fun q => absurd q (by decide)⟩
      · have : Int32.toInt 0 = 0 := rfl
        have c201 : ¬ _ := fun q => c201 (Int32.lt_iff_toInt_lt.mpr q)
        refine lv_aload_n (pc := 11) C0.1 C0.2.1 dX10_endsLet_11 rfl (lv_at hl 1 rfl) ?_
        refine xget (pc := 12) C0 hH 78 33 clX10 ⟨Nat.le_of_ble_eq_true rfl, Nat.le_of_ble_eq_true rfl⟩ ⟨rfl, rfl⟩ (Nat.le_of_ble_eq_true rfl) fl_X10_73 (v := .ref (b + 98)) rfl dX10_endsLet_12 ?_
        refine lv_aload_n (pc := 15) C0.1 C0.2.1 dX10_endsLet_15 rfl (lv_at hl 1 rfl) ?_
        refine xget (pc := 16) C0 hH 78 50 clX10 ⟨Nat.le_of_ble_eq_true rfl, Nat.le_of_ble_eq_true rfl⟩ ⟨rfl, rfl⟩ (Nat.le_of_ble_eq_true rfl) fl_X10_118 (v := .ref (b + 113)) rfl dX10_endsLet_16 ?_
        refine lv_iload_n (pc := 19) C0.1 C0.2.1 dX10_endsLet_19 rfl (lv_at hl 0 rfl) ?_
        refine xiald (pc := 20) (N := 1202) C0 hH 113 ⟨Nat.le_of_ble_eq_true rfl, Nat.le_of_ble_eq_true rfl⟩ ⟨rfl, rfl⟩ (vI (by omega) (by omega)) dX10_endsLet_20 ?_
        refine xiald (pc := 21) (N := 1202) C0 hH 98 ⟨Nat.le_of_ble_eq_true rfl, Nat.le_of_ble_eq_true rfl⟩ ⟨rfl, rfl⟩ (vI (PMm.lt hP (x := q) (by omega)).1.1 (by have := (PMm.lt hP (x := q) (by omega)).1.2; omega)) dX10_endsLet_21 ?_
        refine lv_iconst (pc := 22) (v := 5) C0.1 C0.2.1 dX10_endsLet_22 (by decide) ?_
        refine lv_icmp_eq (pc := 23) (tgt := 47) C0.1 C0.2.1 dX10_endsLet_23 (by decide) (fun c208 => ?_) (fun c208 => ?_)
        · have : Int32.toInt 5 = 5 := rfl
          have c208 := congrArg Int32.toInt c208
          refine lv_aload_n (pc := 47) C0.1 C0.2.1 dX10_endsLet_47 rfl (lv_at hl 1 rfl) ?_
          refine lv_iload_n (pc := 48) C0.1 C0.2.1 dX10_endsLet_48 rfl (lv_at hl 2 rfl) ?_
          refine xcVI (pc := 49) 78 [.int x] (m_isCloser l D tA b i F G x hBR (by omega)) C0 hH hS clX10 rfl ⟨⟨Nat.le_of_ble_eq_true rfl, Nat.le_of_ble_eq_true rfl⟩, rfl, rfl⟩ cw_X10_307 rfl ⟨Nat.le_of_ble_eq_true rfl, Nat.le_of_ble_eq_true rfl⟩ hl.1 rfl (Nat.le_of_ble_eq_true rfl) dX10_endsLet_49 ⟨Nat.le_of_ble_eq_true rfl, Nat.le_of_ble_eq_true rfl⟩ (fun r209 ir209 Fr209 Gr209 _ locs hp hH hS => ?_)
          obtain ⟨hu, hpr209⟩ := hp
          cases hu
          refine lv_if_eq (pc := 52) (tgt := 74) C0.1 C0.2.1 dX10_endsLet_52 (by decide) (fun c210 => ?_) (fun c210 => ?_)
          · have : Int32.toInt 0 = 0 := rfl
            have c210 := congrArg Int32.toInt c210
            refine lv_iconst (pc := 74) (v := 0) C0.1 C0.2.1 dX10_endsLet_74 (by decide) ?_
            exact xzret (pc := 75) C0 hr hH hS dX10_endsLet_75 (by decide) ⟨RO.rf, hT, hP, Or.inl rfl, fun _ => ⟨rfl, rfl⟩, (show Int32.toInt (i 78 47) ≤ _ from by omega), fun q => absurd q (by decide)⟩
          · have : Int32.toInt 0 = 0 := rfl
            have c210 : ¬ _ := fun q => c210 (Int32.toInt_inj.mp q)
            refine lv_iload_n (pc := 55) C0.1 C0.2.1 dX10_endsLet_55 rfl (lv_at hl 0 rfl) ?_
            refine lv_if_lt (pc := 56) (tgt := 74) C0.1 C0.2.1 dX10_endsLet_56 (by decide) (fun c211 => ?_) (fun c211 => ?_)
            · have : Int32.toInt 0 = 0 := rfl
              have c211 := Int32.lt_iff_toInt_lt.mp c211
              refine lv_iconst (pc := 74) (v := 0) C0.1 C0.2.1 dX10_endsLet_74 (by decide) ?_
              exact xzret (pc := 75) C0 hr hH hS dX10_endsLet_75 (by decide) ⟨RO.rf, hT, hP, Or.inl rfl, fun _ => ⟨rfl, rfl⟩, (show Int32.toInt (i 78 47) ≤ _ from by omega), fun q => absurd q (by decide)⟩
            · have : Int32.toInt 0 = 0 := rfl
              have c211 : ¬ _ := fun q => c211 (Int32.lt_iff_toInt_lt.mpr q)
              refine lv_aload_n (pc := 59) C0.1 C0.2.1 dX10_endsLet_59 rfl (lv_at hl 1 rfl) ?_
              refine xget (pc := 60) C0 hH 78 33 clX10 ⟨Nat.le_of_ble_eq_true rfl, Nat.le_of_ble_eq_true rfl⟩ ⟨rfl, rfl⟩ (Nat.le_of_ble_eq_true rfl) fl_X10_73 (v := .ref (b + 98)) rfl dX10_endsLet_60 ?_
              refine lv_aload_n (pc := 63) C0.1 C0.2.1 dX10_endsLet_63 rfl (lv_at hl 1 rfl) ?_
              refine xget (pc := 64) C0 hH 78 50 clX10 ⟨Nat.le_of_ble_eq_true rfl, Nat.le_of_ble_eq_true rfl⟩ ⟨rfl, rfl⟩ (Nat.le_of_ble_eq_true rfl) fl_X10_118 (v := .ref (b + 113)) rfl dX10_endsLet_64 ?_
              refine lv_iload_n (pc := 67) C0.1 C0.2.1 dX10_endsLet_67 rfl (lv_at hl 0 rfl) ?_
              refine xiald (pc := 68) (N := 1202) C0 hH 113 ⟨Nat.le_of_ble_eq_true rfl, Nat.le_of_ble_eq_true rfl⟩ ⟨rfl, rfl⟩ (vI (by omega) (by omega)) dX10_endsLet_68 ?_
              refine xiald (pc := 69) (N := 1202) C0 hH 98 ⟨Nat.le_of_ble_eq_true rfl, Nat.le_of_ble_eq_true rfl⟩ ⟨rfl, rfl⟩ (vI (PMm.lt hP (x := q) (by omega)).1.1 (by have := (PMm.lt hP (x := q) (by omega)).1.2; omega)) dX10_endsLet_69 ?_
              refine lv_iconst (pc := 70) (v := 5) C0.1 C0.2.1 dX10_endsLet_70 (by decide) ?_
              refine lv_icmp_eq (pc := 71) (tgt := 76) C0.1 C0.2.1 dX10_endsLet_71 (by decide) (fun c212 => ?_) (fun c212 => ?_)
              · have : Int32.toInt 5 = 5 := rfl
                have c212 := congrArg Int32.toInt c212
                have hpl := PMm.lt hP (x := q) (by omega)
                have hk5 : Int32.toInt (F 98 (Int32.toNatClampNeg (F 113 (Int32.toNatClampNeg q)))) = Int32.toInt 5 := (by assumption)
                have hb0 : ¬ (F 113 (Int32.toNatClampNeg q)) = 0 := fun q => by rw [q, show Int32.toNatClampNeg 0 = 0 from rfl, hP.2.2.2.1] at hk5; exact absurd hk5 (by decide)
                have hb0I : ¬ Int32.toInt (F 113 (Int32.toNatClampNeg q)) = 0 := fun q => hb0 (Int32.toInt_inj.mp q)
                have hp0 : ¬ Int32.toInt q = 0 := fun q => hb0 (hpl.2 q)
                have hpt := TMm.pt hT (x := F 113 (Int32.toNatClampNeg q)) (by omega)
                refine lv_aload_n (pc := 76) C0.1 C0.2.1 dX10_endsLet_76 rfl (lv_at hl 1 rfl) ?_
                refine xget (pc := 77) C0 hH 78 35 clX10 ⟨Nat.le_of_ble_eq_true rfl, Nat.le_of_ble_eq_true rfl⟩ ⟨rfl, rfl⟩ (Nat.le_of_ble_eq_true rfl) fl_X10_79 (v := .ref (b + 100)) rfl dX10_endsLet_77 ?_
                refine lv_aload_n (pc := 80) C0.1 C0.2.1 dX10_endsLet_80 rfl (lv_at hl 1 rfl) ?_
                refine xget (pc := 81) C0 hH 78 50 clX10 ⟨Nat.le_of_ble_eq_true rfl, Nat.le_of_ble_eq_true rfl⟩ ⟨rfl, rfl⟩ (Nat.le_of_ble_eq_true rfl) fl_X10_118 (v := .ref (b + 113)) rfl dX10_endsLet_81 ?_
                refine lv_iload_n (pc := 84) C0.1 C0.2.1 dX10_endsLet_84 rfl (lv_at hl 0 rfl) ?_
                refine xiald (pc := 85) (N := 1202) C0 hH 113 ⟨Nat.le_of_ble_eq_true rfl, Nat.le_of_ble_eq_true rfl⟩ ⟨rfl, rfl⟩ (vI (by omega) (by omega)) dX10_endsLet_85 ?_
                refine xiald (pc := 86) (N := 1202) C0 hH 100 ⟨Nat.le_of_ble_eq_true rfl, Nat.le_of_ble_eq_true rfl⟩ ⟨rfl, rfl⟩ (vI (by omega) (by omega)) dX10_endsLet_86 ?_
                refine lv_topi (fun x213 ex213 => ?_)
                refine lv_istore_n (pc := 87) (lv' := [(3, .int x213), (2, .int q), (0, .ref (b + 78)), (1, .int x)]) C0.1 C0.2.1 dX10_endsLet_87 rfl hl (by decide) rfl (fun ls hl => ?_)
                refine lv_aload_n (pc := 88) C0.1 C0.2.1 dX10_endsLet_88 rfl (lv_at hl 2 rfl) ?_
                refine lv_iload_n (pc := 89) C0.1 C0.2.1 dX10_endsLet_89 rfl (lv_at hl 1 rfl) ?_
                refine xputI (pc := 90) C0 (Nat.le_of_ble_eq_true rfl) hH hS 78 51 clX10 ⟨Nat.le_of_ble_eq_true rfl, Nat.le_of_ble_eq_true rfl⟩ ⟨rfl, rfl⟩ ⟨Nat.le_of_ble_eq_true rfl, rfl, rfl⟩ fl_X10_293 (x := q) ⟨rfl, rfl⟩ dX10_endsLet_90 (fun _ locs hH hS _ => ?_)
                have hH : Hd D tA b 78 52 zz (up2 i 78 51 q) F G _ := hH
                have hP : PMm k (up2 i 78 51 q) F := PMm.top hP (by omega)
                refine lv_aload_n (pc := 93) C0.1 C0.2.1 dX10_endsLet_93 rfl (lv_at hl 2 rfl) ?_
                refine xget (pc := 94) C0 hH 78 27 clX10 ⟨Nat.le_of_ble_eq_true rfl, Nat.le_of_ble_eq_true rfl⟩ ⟨rfl, rfl⟩ (Nat.le_of_ble_eq_true rfl) fl_X10_64 (v := .ref (b + 95)) rfl dX10_endsLet_94 ?_
                refine lv_iload_n (pc := 97) C0.1 C0.2.1 dX10_endsLet_97 rfl (lv_at hl 3 rfl) ?_
                refine lv_iload_n (pc := 98) C0.1 C0.2.1 dX10_endsLet_98 rfl (lv_at hl 0 rfl) ?_
                refine xiast (pc := 99) (N := 600) C0 (Nat.le_of_ble_eq_true rfl) hH hS 95 ⟨Nat.le_of_ble_eq_true rfl, Nat.le_of_ble_eq_true rfl⟩ ⟨rfl, rfl⟩ (vI (by omega) (by omega)) dX10_endsLet_99 (fun _ locs hH hS _ => ?_)
                have hH : Hd D tA b 78 52 zz (up2 i 78 51 q) (va_up F 95 (upd (F 95) (Int32.toNatClampNeg x) x213)) G _ := hH
                have eit := congrArg Int32.toInt ex213
                have hT : TMm (up2 i 78 51 q) (va_up F 95 (upd (F 95) (Int32.toNatClampNeg x) x213)) := TMm.io hT (show 0 ≤ Int32.toInt x213 ∧ Int32.toInt x213 < 1202 from by omega)
                refine lv_aload_n (pc := 100) C0.1 C0.2.1 dX10_endsLet_100 rfl (lv_at hl 2 rfl) ?_
                refine lv_iload_n (pc := 101) C0.1 C0.2.1 dX10_endsLet_101 rfl (lv_at hl 0 rfl) ?_
                refine lv_iload_n (pc := 102) C0.1 C0.2.1 dX10_endsLet_102 rfl (lv_at hl 3 rfl) ?_
                refine xcVV (pc := 103) 78 [.int x213, .int x] (m_hang l D tA b (up2 i 78 51 q) (va_up F 95 (upd (F 95) (Int32.toNatClampNeg x) x213)) G x213 x hT (show 0 ≤ Int32.toInt x213 ∧ Int32.toInt x213 < Int32.toInt (i 78 40) from by omega) (show Int32.toInt (i 78 47) < 1802 from by omega) (Or.inl (by omega))) C0 hH hS clX10 rfl ⟨⟨Nat.le_of_ble_eq_true rfl, Nat.le_of_ble_eq_true rfl⟩, rfl, rfl⟩ cw_X10_284 rfl ⟨Nat.le_of_ble_eq_true rfl, Nat.le_of_ble_eq_true rfl⟩ hl.1 rfl (Nat.le_of_ble_eq_true rfl) dX10_endsLet_103 ⟨Nat.le_of_ble_eq_true rfl, Nat.le_of_ble_eq_true rfl⟩ (fun ir214 Fr214 Gr214 _ locs hp hH hS => ?_)
                obtain ⟨honr214, hT, hptr214⟩ := hp
                have hT : TMm ir214 Fr214 := hT
                have hptr214 : (ir214 78 47).toInt = Int32.toInt (i 78 47) + 1 := hptr214
                have hTL := TMm.lin hT
                have hP : PMm k ir214 Fr214 := PMm.ro (i := (up2 i 78 51 q)) (F := (va_up F 95 (upd (F 95) (Int32.toNatClampNeg x) x213))) hP honr214 (by decide) (by decide)
                refine lv_iconst (pc := 106) (v := 1) C0.1 C0.2.1 dX10_endsLet_106 (by decide) ?_
                exact xzret (pc := 107) C0 hr hH hS dX10_endsLet_107 (by decide) ⟨(RO.tr (RO.f (RO.i RO.rf (by decide)) (by decide)) honr214 (by decide) (by decide)), hT, hP, Or.inr rfl, fun q => absurd q (by decide), (show Int32.toInt (ir214 78 47) ≤ _ from by omega), fun _ => (by omega)⟩
              · have : Int32.toInt 5 = 5 := rfl
                have c212 : ¬ _ := fun q => c212 (Int32.toInt_inj.mp q)
                refine lv_iconst (pc := 74) (v := 0) C0.1 C0.2.1 dX10_endsLet_74 (by decide) ?_
                exact xzret (pc := 75) C0 hr hH hS dX10_endsLet_75 (by decide) ⟨RO.rf, hT, hP, Or.inl rfl, fun _ => ⟨rfl, rfl⟩, (show Int32.toInt (i 78 47) ≤ _ from by omega), fun q => absurd q (by decide)⟩
        · have : Int32.toInt 5 = 5 := rfl
          have c208 : ¬ _ := fun q => c208 (Int32.toInt_inj.mp q)
          refine lv_aload_n (pc := 26) C0.1 C0.2.1 dX10_endsLet_26 rfl (lv_at hl 1 rfl) ?_
          refine xget (pc := 27) C0 hH 78 33 clX10 ⟨Nat.le_of_ble_eq_true rfl, Nat.le_of_ble_eq_true rfl⟩ ⟨rfl, rfl⟩ (Nat.le_of_ble_eq_true rfl) fl_X10_73 (v := .ref (b + 98)) rfl dX10_endsLet_27 ?_
          refine lv_aload_n (pc := 30) C0.1 C0.2.1 dX10_endsLet_30 rfl (lv_at hl 1 rfl) ?_
          refine xget (pc := 31) C0 hH 78 50 clX10 ⟨Nat.le_of_ble_eq_true rfl, Nat.le_of_ble_eq_true rfl⟩ ⟨rfl, rfl⟩ (Nat.le_of_ble_eq_true rfl) fl_X10_118 (v := .ref (b + 113)) rfl dX10_endsLet_31 ?_
          refine lv_iload_n (pc := 34) C0.1 C0.2.1 dX10_endsLet_34 rfl (lv_at hl 0 rfl) ?_
          refine xiald (pc := 35) (N := 1202) C0 hH 113 ⟨Nat.le_of_ble_eq_true rfl, Nat.le_of_ble_eq_true rfl⟩ ⟨rfl, rfl⟩ (vI (by omega) (by omega)) dX10_endsLet_35 ?_
          refine xiald (pc := 36) (N := 1202) C0 hH 98 ⟨Nat.le_of_ble_eq_true rfl, Nat.le_of_ble_eq_true rfl⟩ ⟨rfl, rfl⟩ (vI (PMm.lt hP (x := q) (by omega)).1.1 (by have := (PMm.lt hP (x := q) (by omega)).1.2; omega)) dX10_endsLet_36 ?_
          refine lv_iconst (pc := 37) (v := 4) C0.1 C0.2.1 dX10_endsLet_37 (by decide) ?_
          refine lv_icmp_eq (pc := 38) (tgt := 47) C0.1 C0.2.1 dX10_endsLet_38 (by decide) (fun c215 => ?_) (fun c215 => ?_)
          · have : Int32.toInt 4 = 4 := rfl
            have c215 := congrArg Int32.toInt c215
            refine lv_aload_n (pc := 47) C0.1 C0.2.1 dX10_endsLet_47 rfl (lv_at hl 1 rfl) ?_
            refine lv_iload_n (pc := 48) C0.1 C0.2.1 dX10_endsLet_48 rfl (lv_at hl 2 rfl) ?_
            refine xcVI (pc := 49) 78 [.int x] (m_isCloser l D tA b i F G x hBR (by omega)) C0 hH hS clX10 rfl ⟨⟨Nat.le_of_ble_eq_true rfl, Nat.le_of_ble_eq_true rfl⟩, rfl, rfl⟩ cw_X10_307 rfl ⟨Nat.le_of_ble_eq_true rfl, Nat.le_of_ble_eq_true rfl⟩ hl.1 rfl (Nat.le_of_ble_eq_true rfl) dX10_endsLet_49 ⟨Nat.le_of_ble_eq_true rfl, Nat.le_of_ble_eq_true rfl⟩ (fun r216 ir216 Fr216 Gr216 _ locs hp hH hS => ?_)
            obtain ⟨hu, hpr216⟩ := hp
            cases hu
            refine lv_if_eq (pc := 52) (tgt := 74) C0.1 C0.2.1 dX10_endsLet_52 (by decide) (fun c217 => ?_) (fun c217 => ?_)
            · have : Int32.toInt 0 = 0 := rfl
              have c217 := congrArg Int32.toInt c217
              refine lv_iconst (pc := 74) (v := 0) C0.1 C0.2.1 dX10_endsLet_74 (by decide) ?_
              exact xzret (pc := 75) C0 hr hH hS dX10_endsLet_75 (by decide) ⟨RO.rf, hT, hP, Or.inl rfl, fun _ => ⟨rfl, rfl⟩, (show Int32.toInt (i 78 47) ≤ _ from by omega), fun q => absurd q (by decide)⟩
            · have : Int32.toInt 0 = 0 := rfl
              have c217 : ¬ _ := fun q => c217 (Int32.toInt_inj.mp q)
              refine lv_iload_n (pc := 55) C0.1 C0.2.1 dX10_endsLet_55 rfl (lv_at hl 0 rfl) ?_
              refine lv_if_lt (pc := 56) (tgt := 74) C0.1 C0.2.1 dX10_endsLet_56 (by decide) (fun c218 => ?_) (fun c218 => ?_)
              · have : Int32.toInt 0 = 0 := rfl
                have c218 := Int32.lt_iff_toInt_lt.mp c218
                refine lv_iconst (pc := 74) (v := 0) C0.1 C0.2.1 dX10_endsLet_74 (by decide) ?_
                exact xzret (pc := 75) C0 hr hH hS dX10_endsLet_75 (by decide) ⟨RO.rf, hT, hP, Or.inl rfl, fun _ => ⟨rfl, rfl⟩, (show Int32.toInt (i 78 47) ≤ _ from by omega), fun q => absurd q (by decide)⟩
              · have : Int32.toInt 0 = 0 := rfl
                have c218 : ¬ _ := fun q => c218 (Int32.lt_iff_toInt_lt.mpr q)
                refine lv_aload_n (pc := 59) C0.1 C0.2.1 dX10_endsLet_59 rfl (lv_at hl 1 rfl) ?_
                refine xget (pc := 60) C0 hH 78 33 clX10 ⟨Nat.le_of_ble_eq_true rfl, Nat.le_of_ble_eq_true rfl⟩ ⟨rfl, rfl⟩ (Nat.le_of_ble_eq_true rfl) fl_X10_73 (v := .ref (b + 98)) rfl dX10_endsLet_60 ?_
                refine lv_aload_n (pc := 63) C0.1 C0.2.1 dX10_endsLet_63 rfl (lv_at hl 1 rfl) ?_
                refine xget (pc := 64) C0 hH 78 50 clX10 ⟨Nat.le_of_ble_eq_true rfl, Nat.le_of_ble_eq_true rfl⟩ ⟨rfl, rfl⟩ (Nat.le_of_ble_eq_true rfl) fl_X10_118 (v := .ref (b + 113)) rfl dX10_endsLet_64 ?_
                refine lv_iload_n (pc := 67) C0.1 C0.2.1 dX10_endsLet_67 rfl (lv_at hl 0 rfl) ?_
                refine xiald (pc := 68) (N := 1202) C0 hH 113 ⟨Nat.le_of_ble_eq_true rfl, Nat.le_of_ble_eq_true rfl⟩ ⟨rfl, rfl⟩ (vI (by omega) (by omega)) dX10_endsLet_68 ?_
                refine xiald (pc := 69) (N := 1202) C0 hH 98 ⟨Nat.le_of_ble_eq_true rfl, Nat.le_of_ble_eq_true rfl⟩ ⟨rfl, rfl⟩ (vI (PMm.lt hP (x := q) (by omega)).1.1 (by have := (PMm.lt hP (x := q) (by omega)).1.2; omega)) dX10_endsLet_69 ?_
                refine lv_iconst (pc := 70) (v := 5) C0.1 C0.2.1 dX10_endsLet_70 (by decide) ?_
                refine lv_icmp_eq (pc := 71) (tgt := 76) C0.1 C0.2.1 dX10_endsLet_71 (by decide) (fun c219 => ?_) (fun c219 => ?_)
                · have : Int32.toInt 5 = 5 := rfl
                  have c219 := congrArg Int32.toInt c219
                  have hpl := PMm.lt hP (x := q) (by omega)
                  have hk5 : Int32.toInt (F 98 (Int32.toNatClampNeg (F 113 (Int32.toNatClampNeg q)))) = Int32.toInt 5 := (by assumption)
                  have hb0 : ¬ (F 113 (Int32.toNatClampNeg q)) = 0 := fun q => by rw [q, show Int32.toNatClampNeg 0 = 0 from rfl, hP.2.2.2.1] at hk5; exact absurd hk5 (by decide)
                  have hb0I : ¬ Int32.toInt (F 113 (Int32.toNatClampNeg q)) = 0 := fun q => hb0 (Int32.toInt_inj.mp q)
                  have hp0 : ¬ Int32.toInt q = 0 := fun q => hb0 (hpl.2 q)
                  have hpt := TMm.pt hT (x := F 113 (Int32.toNatClampNeg q)) (by omega)
                  refine lv_aload_n (pc := 76) C0.1 C0.2.1 dX10_endsLet_76 rfl (lv_at hl 1 rfl) ?_
                  refine xget (pc := 77) C0 hH 78 35 clX10 ⟨Nat.le_of_ble_eq_true rfl, Nat.le_of_ble_eq_true rfl⟩ ⟨rfl, rfl⟩ (Nat.le_of_ble_eq_true rfl) fl_X10_79 (v := .ref (b + 100)) rfl dX10_endsLet_77 ?_
                  refine lv_aload_n (pc := 80) C0.1 C0.2.1 dX10_endsLet_80 rfl (lv_at hl 1 rfl) ?_
                  refine xget (pc := 81) C0 hH 78 50 clX10 ⟨Nat.le_of_ble_eq_true rfl, Nat.le_of_ble_eq_true rfl⟩ ⟨rfl, rfl⟩ (Nat.le_of_ble_eq_true rfl) fl_X10_118 (v := .ref (b + 113)) rfl dX10_endsLet_81 ?_
                  refine lv_iload_n (pc := 84) C0.1 C0.2.1 dX10_endsLet_84 rfl (lv_at hl 0 rfl) ?_
                  refine xiald (pc := 85) (N := 1202) C0 hH 113 ⟨Nat.le_of_ble_eq_true rfl, Nat.le_of_ble_eq_true rfl⟩ ⟨rfl, rfl⟩ (vI (by omega) (by omega)) dX10_endsLet_85 ?_
                  refine xiald (pc := 86) (N := 1202) C0 hH 100 ⟨Nat.le_of_ble_eq_true rfl, Nat.le_of_ble_eq_true rfl⟩ ⟨rfl, rfl⟩ (vI (by omega) (by omega)) dX10_endsLet_86 ?_
                  refine lv_topi (fun x220 ex220 => ?_)
                  refine lv_istore_n (pc := 87) (lv' := [(3, .int x220), (2, .int q), (0, .ref (b + 78)), (1, .int x)]) C0.1 C0.2.1 dX10_endsLet_87 rfl hl (by decide) rfl (fun ls hl => ?_)
                  refine lv_aload_n (pc := 88) C0.1 C0.2.1 dX10_endsLet_88 rfl (lv_at hl 2 rfl) ?_
                  refine lv_iload_n (pc := 89) C0.1 C0.2.1 dX10_endsLet_89 rfl (lv_at hl 1 rfl) ?_
                  refine xputI (pc := 90) C0 (Nat.le_of_ble_eq_true rfl) hH hS 78 51 clX10 ⟨Nat.le_of_ble_eq_true rfl, Nat.le_of_ble_eq_true rfl⟩ ⟨rfl, rfl⟩ ⟨Nat.le_of_ble_eq_true rfl, rfl, rfl⟩ fl_X10_293 (x := q) ⟨rfl, rfl⟩ dX10_endsLet_90 (fun _ locs hH hS _ => ?_)
                  have hH : Hd D tA b 78 52 zz (up2 i 78 51 q) F G _ := hH
                  have hP : PMm k (up2 i 78 51 q) F := PMm.top hP (by omega)
                  refine lv_aload_n (pc := 93) C0.1 C0.2.1 dX10_endsLet_93 rfl (lv_at hl 2 rfl) ?_
                  refine xget (pc := 94) C0 hH 78 27 clX10 ⟨Nat.le_of_ble_eq_true rfl, Nat.le_of_ble_eq_true rfl⟩ ⟨rfl, rfl⟩ (Nat.le_of_ble_eq_true rfl) fl_X10_64 (v := .ref (b + 95)) rfl dX10_endsLet_94 ?_
                  refine lv_iload_n (pc := 97) C0.1 C0.2.1 dX10_endsLet_97 rfl (lv_at hl 3 rfl) ?_
                  refine lv_iload_n (pc := 98) C0.1 C0.2.1 dX10_endsLet_98 rfl (lv_at hl 0 rfl) ?_
                  refine xiast (pc := 99) (N := 600) C0 (Nat.le_of_ble_eq_true rfl) hH hS 95 ⟨Nat.le_of_ble_eq_true rfl, Nat.le_of_ble_eq_true rfl⟩ ⟨rfl, rfl⟩ (vI (by omega) (by omega)) dX10_endsLet_99 (fun _ locs hH hS _ => ?_)
                  have hH : Hd D tA b 78 52 zz (up2 i 78 51 q) (va_up F 95 (upd (F 95) (Int32.toNatClampNeg x) x220)) G _ := hH
                  have eit := congrArg Int32.toInt ex220
                  have hT : TMm (up2 i 78 51 q) (va_up F 95 (upd (F 95) (Int32.toNatClampNeg x) x220)) := TMm.io hT (show 0 ≤ Int32.toInt x220 ∧ Int32.toInt x220 < 1202 from by omega)
                  refine lv_aload_n (pc := 100) C0.1 C0.2.1 dX10_endsLet_100 rfl (lv_at hl 2 rfl) ?_
                  refine lv_iload_n (pc := 101) C0.1 C0.2.1 dX10_endsLet_101 rfl (lv_at hl 0 rfl) ?_
                  refine lv_iload_n (pc := 102) C0.1 C0.2.1 dX10_endsLet_102 rfl (lv_at hl 3 rfl) ?_
                  refine xcVV (pc := 103) 78 [.int x220, .int x] (m_hang l D tA b (up2 i 78 51 q) (va_up F 95 (upd (F 95) (Int32.toNatClampNeg x) x220)) G x220 x hT (show 0 ≤ Int32.toInt x220 ∧ Int32.toInt x220 < Int32.toInt (i 78 40) from by omega) (show Int32.toInt (i 78 47) < 1802 from by omega) (Or.inl (by omega))) C0 hH hS clX10 rfl ⟨⟨Nat.le_of_ble_eq_true rfl, Nat.le_of_ble_eq_true rfl⟩, rfl, rfl⟩ cw_X10_284 rfl ⟨Nat.le_of_ble_eq_true rfl, Nat.le_of_ble_eq_true rfl⟩ hl.1 rfl (Nat.le_of_ble_eq_true rfl) dX10_endsLet_103 ⟨Nat.le_of_ble_eq_true rfl, Nat.le_of_ble_eq_true rfl⟩ (fun ir221 Fr221 Gr221 _ locs hp hH hS => ?_)
                  obtain ⟨honr221, hT, hptr221⟩ := hp
                  have hT : TMm ir221 Fr221 := hT
                  have hptr221 : (ir221 78 47).toInt = Int32.toInt (i 78 47) + 1 := hptr221
                  have hTL := TMm.lin hT
                  have hP : PMm k ir221 Fr221 := PMm.ro (i := (up2 i 78 51 q)) (F := (va_up F 95 (upd (F 95) (Int32.toNatClampNeg x) x220))) hP honr221 (by decide) (by decide)
                  refine lv_iconst (pc := 106) (v := 1) C0.1 C0.2.1 dX10_endsLet_106 (by decide) ?_
                  exact xzret (pc := 107) C0 hr hH hS dX10_endsLet_107 (by decide) ⟨(RO.tr (RO.f (RO.i RO.rf (by decide)) (by decide)) honr221 (by decide) (by decide)), hT, hP, Or.inr rfl, fun q => absurd q (by decide), (show Int32.toInt (ir221 78 47) ≤ _ from by omega), fun _ => (by omega)⟩
                · have : Int32.toInt 5 = 5 := rfl
                  have c219 : ¬ _ := fun q => c219 (Int32.toInt_inj.mp q)
                  refine lv_iconst (pc := 74) (v := 0) C0.1 C0.2.1 dX10_endsLet_74 (by decide) ?_
                  exact xzret (pc := 75) C0 hr hH hS dX10_endsLet_75 (by decide) ⟨RO.rf, hT, hP, Or.inl rfl, fun _ => ⟨rfl, rfl⟩, (show Int32.toInt (i 78 47) ≤ _ from by omega), fun q => absurd q (by decide)⟩
          · have : Int32.toInt 4 = 4 := rfl
            have c215 : ¬ _ := fun q => c215 (Int32.toInt_inj.mp q)
            obtain ⟨x222, ex222⟩ : ∃ y_ : Int32, y_ = q + (-1) := ⟨_, rfl⟩
            have : Int32.toInt (-1) = (-1) := rfl
            have hx222 : Int32.toInt x222 = Int32.toInt q + Int32.toInt (-1) := by rw [ex222]; exact fb_addI (by omega) (by omega)
            refine lv_iinc (pc := 41) (v := x222) (lv' := [(2, .int x222), (0, .ref (b + 78)), (1, .int x)]) C0.1 C0.2.1 dX10_endsLet_41 hl (k := 0) rfl (by rw [ex222]; rfl) (by decide) rfl (fun ls hl => ?_)
            refine lv_goto (pc := 44) (tgt := 7) C0.1 C0.2.1 dX10_endsLet_44 (by decide) ?_
            exact ih7 x222 _ _ _ (by omega) (by omega) hH hS (lv_sub hl [0, 1, 2] rfl)
  refine lv_aload_n (pc := 0) C0.1 C0.2.1 dX10_endsLet_0 rfl (lv_at hl 0 rfl) ?_
  refine xget (pc := 1) C0 hH 78 51 clX10 ⟨Nat.le_of_ble_eq_true rfl, Nat.le_of_ble_eq_true rfl⟩ ⟨rfl, rfl⟩ (Nat.le_of_ble_eq_true rfl) fl_X10_293 (v := .int (i 78 51)) rfl dX10_endsLet_1 ?_
  refine lv_iconst (pc := 4) (v := 1) C0.1 C0.2.1 dX10_endsLet_4 (by decide) ?_
  have : Int32.toInt 1 = 1 := rfl
  refine lv_isub (pc := 5) C0.1 C0.2.1 dX10_endsLet_5 ?_
  refine lv_topi (fun x1 ex1 => ?_)
  have hx1 : Int32.toInt x1 = Int32.toInt (i 78 51) - Int32.toInt 1 := by rw [ex1]; exact fb_subI (by omega) (by omega)
  refine lv_istore_n (pc := 6) (lv' := [(2, .int x1), (0, .ref (b + 78)), (1, .int x)]) C0.1 C0.2.1 dX10_endsLet_6 rfl hl (by decide) rfl (fun ls hl => ?_)
  exact L7 1202 x1 _ _ _ (by omega) (by omega) hH hS (lv_sub hl [0, 1, 2] rfl)
set_option maxHeartbeats 4000000 in
set_option maxRecDepth 100000 in
theorem m_opens (l : Launch) (D : va_G) (tA : Nat → ClassId) (b : Nat) (i F : Nat → Nat → Int32) (G : Nat → Nat → Int64) (x y : Int32) (k : Int) (hT : TMm i F) (hP : PMm k i F) (hTK : TKm i F) (hPI : PLI i) (hBR : BR i) (hk0 : 0 < k) (hy : 1 ≤ y.toInt ∧ y.toInt < (i 78 19).toInt) (hbm : (i 78 32).toInt < 1202) (him : (i 78 40).toInt < 1202) (hpm : (i 78 47).toInt < 1802) (hpm2 : (i 78 47).toInt < 1801) : xMI l yX10_opens cX10_opens 6 (some .boolean) 3 72 D tA b 78 52 i F G [.ref (b + 78), .int x, .int y] (fun r u => RO [30, 31, 32, 40, 47, 51] [95, 98, 99, 100, 101, 102, 103, 104, 105, 106, 107, 108, 109, 110, 111, 112, 113] i F G u ∧ TMm u.1 u.2.1 ∧ PMm k u.1 u.2.1 ∧ PLI u.1 ∧ (r = 0 ∨ r = 1) ∧ ((u.1 78 32).toInt ≤ (i 78 32).toInt + 1 ∧ (u.1 78 40).toInt ≤ (i 78 40).toInt + r.toInt ∧ (u.1 78 47).toInt ≤ (i 78 47).toInt + 1 + r.toInt) ∧ (i 78 32).toInt ≤ (u.1 78 32).toInt) := by
  refine xstart RX10 rfl (by decide) (Nat.le_of_ble_eq_true rfl) ?_
  intro p e s m below meth c ls C0 hr hH hS hl
  have hl : lv_has ls 6 [(0, .ref (b + 78)), (1, .int x), (2, .int y)] := hl
  have rg_x := fb_rng x
  have rg_y := fb_rng y
  have hTL := TMm.lin hT
  have hPl := hP.1
  have hTKl := hTK.1
  refine lv_aload_n (pc := 0) C0.1 C0.2.1 dX10_opens_0 rfl (lv_at hl 0 rfl) ?_
  refine lv_iload_n (pc := 1) C0.1 C0.2.1 dX10_opens_1 rfl (lv_at hl 2 rfl) ?_
  refine xcVI (pc := 2) 78 [.int y] (m_isCloser l D tA b i F G y hBR (by omega)) C0 hH hS clX10 rfl ⟨⟨Nat.le_of_ble_eq_true rfl, Nat.le_of_ble_eq_true rfl⟩, rfl, rfl⟩ cw_X10_307 rfl ⟨Nat.le_of_ble_eq_true rfl, Nat.le_of_ble_eq_true rfl⟩ hl.1 rfl (Nat.le_of_ble_eq_true rfl) dX10_opens_2 ⟨Nat.le_of_ble_eq_true rfl, Nat.le_of_ble_eq_true rfl⟩ (fun r1 ir1 Fr1 Gr1 _ locs hp hH hS => ?_)
  obtain ⟨hu, hpr1⟩ := hp
  cases hu
  refine lv_if_ne (pc := 5) (tgt := 19) C0.1 C0.2.1 dX10_opens_5 (by decide) (fun c2 => ?_) (fun c2 => ?_)
  · have : Int32.toInt 0 = 0 := rfl
    have c2 : ¬ _ := fun q => c2 (Int32.toInt_inj.mp q)
    refine lv_iconst (pc := 19) (v := 1) C0.1 C0.2.1 dX10_opens_19 (by decide) ?_
    refine lv_goto (pc := 20) (tgt := 24) C0.1 C0.2.1 dX10_opens_20 (by decide) ?_
    refine lv_istore_n (pc := 24) (lv' := [(3, .int 1), (0, .ref (b + 78)), (1, .int x), (2, .int y)]) C0.1 C0.2.1 dX10_opens_24 rfl hl (by decide) rfl (fun ls hl => ?_)
    refine lv_aload_n (pc := 25) C0.1 C0.2.1 dX10_opens_25 rfl (lv_at hl 1 rfl) ?_
    refine xget (pc := 26) C0 hH 78 24 clX10 ⟨Nat.le_of_ble_eq_true rfl, Nat.le_of_ble_eq_true rfl⟩ ⟨rfl, rfl⟩ (Nat.le_of_ble_eq_true rfl) fl_X10_54 (v := .ref (b + 92)) rfl dX10_opens_26 ?_
    refine lv_iload_n (pc := 29) C0.1 C0.2.1 dX10_opens_29 rfl (lv_at hl 3 rfl) ?_
    refine xiald (pc := 30) (N := 600) C0 hH 92 ⟨Nat.le_of_ble_eq_true rfl, Nat.le_of_ble_eq_true rfl⟩ ⟨rfl, rfl⟩ (vI (by omega) (by omega)) dX10_opens_30 ?_
    refine lv_aload_n (pc := 31) C0.1 C0.2.1 dX10_opens_31 rfl (lv_at hl 1 rfl) ?_
    refine xget (pc := 32) C0 hH 78 34 clX10 ⟨Nat.le_of_ble_eq_true rfl, Nat.le_of_ble_eq_true rfl⟩ ⟨rfl, rfl⟩ (Nat.le_of_ble_eq_true rfl) fl_X10_76 (v := .ref (b + 99)) rfl dX10_opens_32 ?_
    refine lv_aload_n (pc := 35) C0.1 C0.2.1 dX10_opens_35 rfl (lv_at hl 1 rfl) ?_
    refine xcVI (pc := 36) 78 [] (m_topmost l D tA b i F G k hT hP) C0 hH hS clX10 rfl ⟨⟨Nat.le_of_ble_eq_true rfl, Nat.le_of_ble_eq_true rfl⟩, rfl, rfl⟩ cw_X10_296 rfl ⟨Nat.le_of_ble_eq_true rfl, Nat.le_of_ble_eq_true rfl⟩ hl.1 rfl (Nat.le_of_ble_eq_true rfl) dX10_opens_36 ⟨Nat.le_of_ble_eq_true rfl, Nat.le_of_ble_eq_true rfl⟩ (fun r3 ir3 Fr3 Gr3 _ locs hp hH hS => ?_)
    obtain ⟨hu, htpr3, htqr3, htzr3⟩ := hp
    cases hu
    have hBtr3 := TMm.bt hT (x := r3) (show 0 ≤ Int32.toInt r3 ∧ Int32.toInt r3 < Int32.toInt (i 78 32) from htpr3)
    refine xiald (pc := 39) (N := 1202) C0 hH 99 ⟨Nat.le_of_ble_eq_true rfl, Nat.le_of_ble_eq_true rfl⟩ ⟨rfl, rfl⟩ (vI (by omega) (by omega)) dX10_opens_39 ?_
    refine lv_icmp_le (pc := 40) (tgt := 51) C0.1 C0.2.1 dX10_opens_40 (by decide) (fun c4 => ?_) (fun c4 => ?_)
    · have c4 := Int32.le_iff_toInt_le.mp c4
      refine lv_iconst (pc := 51) (v := 0) C0.1 C0.2.1 dX10_opens_51 (by decide) ?_
      refine lv_istore (pc := 52) (lv' := [(4, .int 0), (3, .int 1), (0, .ref (b + 78)), (1, .int x), (2, .int y)]) C0.1 C0.2.1 dX10_opens_52 hl (by decide) rfl (fun ls hl => ?_)
      refine lv_iload_n (pc := 54) C0.1 C0.2.1 dX10_opens_54 rfl (lv_at hl 3 rfl) ?_
      refine lv_iconst (pc := 55) (v := 1) C0.1 C0.2.1 dX10_opens_55 (by decide) ?_
      refine lv_icmp_ne (pc := 56) (tgt := 98) C0.1 C0.2.1 dX10_opens_56 (by decide) (fun c5 => ?_) (fun c5 => ?_)
      · have : Int32.toInt 1 = 1 := rfl
        have c5 : ¬ _ := fun q => c5 (Int32.toInt_inj.mp q)
        refine lv_iload (pc := 98) C0.1 C0.2.1 dX10_opens_98 (lv_at hl 0 rfl) ?_
        refine lv_if_ne (pc := 100) (tgt := 126) C0.1 C0.2.1 dX10_opens_100 (by decide) (fun c => absurd (by decide) c) (fun _ => ?_)
        refine lv_aload_n (pc := 103) C0.1 C0.2.1 dX10_opens_103 rfl (lv_at hl 2 rfl) ?_
        refine lv_iload_n (pc := 104) C0.1 C0.2.1 dX10_opens_104 rfl (lv_at hl 3 rfl) ?_
        refine lv_bipush (pc := 105) (v := (-9)) C0.1 C0.2.1 dX10_opens_105 (by decide) ?_
        refine lv_aload_n (pc := 107) C0.1 C0.2.1 dX10_opens_107 rfl (lv_at hl 2 rfl) ?_
        refine xget (pc := 108) C0 hH 78 39 clX10 ⟨Nat.le_of_ble_eq_true rfl, Nat.le_of_ble_eq_true rfl⟩ ⟨rfl, rfl⟩ (Nat.le_of_ble_eq_true rfl) fl_X10_91 (v := .ref (b + 104)) rfl dX10_opens_108 ?_
        refine lv_aload_n (pc := 111) C0.1 C0.2.1 dX10_opens_111 rfl (lv_at hl 2 rfl) ?_
        refine xcVI (pc := 112) 78 [] (m_topmost l D tA b i F G k hT hP) C0 hH hS clX10 rfl ⟨⟨Nat.le_of_ble_eq_true rfl, Nat.le_of_ble_eq_true rfl⟩, rfl, rfl⟩ cw_X10_296 rfl ⟨Nat.le_of_ble_eq_true rfl, Nat.le_of_ble_eq_true rfl⟩ hl.1 rfl (Nat.le_of_ble_eq_true rfl) dX10_opens_112 ⟨Nat.le_of_ble_eq_true rfl, Nat.le_of_ble_eq_true rfl⟩ (fun r6 ir6 Fr6 Gr6 _ locs hp hH hS => ?_)
        obtain ⟨hu, htpr6, htqr6, htzr6⟩ := hp
        cases hu
        have hBtr6 := TMm.bt hT (x := r6) (show 0 ≤ Int32.toInt r6 ∧ Int32.toInt r6 < Int32.toInt (i 78 32) from htpr6)
        refine xiald (pc := 115) (N := 1202) C0 hH 104 ⟨Nat.le_of_ble_eq_true rfl, Nat.le_of_ble_eq_true rfl⟩ ⟨rfl, rfl⟩ (vI (by omega) (by omega)) dX10_opens_115 ?_
        have hv9 := htqr6 (Or.inr hk0)
        refine lv_iload_n (pc := 116) C0.1 C0.2.1 dX10_opens_116 rfl (lv_at hl 4 rfl) ?_
        refine lv_iconst (pc := 117) (v := 1) C0.1 C0.2.1 dX10_opens_117 (by decide) ?_
        have : Int32.toInt 1 = 1 := rfl
        refine lv_isub (pc := 118) C0.1 C0.2.1 dX10_opens_118 ?_
        refine lv_topi (fun x7 ex7 => ?_)
        have hx7 : Int32.toInt x7 = Int32.toInt y - Int32.toInt 1 := by rw [ex7]; exact fb_subI (by omega) (by omega)
        refine xcVI (pc := 119) 78 [.int x, .int (-9), .int (F 104 (Int32.toNatClampNeg r6)), .int x7] (m_newBlock l D tA b i F G x (-9) (F 104 (Int32.toNatClampNeg r6)) x7 hT (show Int32.toInt (i 78 32) < 1202 from by omega) (show Int32.toInt (i 78 47) < 1802 from by omega) (show (Int32.toInt (i 78 32) = 0 ∧ Int32.toInt (F 104 (Int32.toNatClampNeg r6)) = -9) ∨ (1 ≤ Int32.toInt (i 78 32) ∧ (0 ≤ Int32.toInt (F 104 (Int32.toNatClampNeg r6)) ∧ Int32.toInt (F 104 (Int32.toNatClampNeg r6)) < Int32.toInt (i 78 40)) ∧ 0 ≤ Int32.toInt x7 ∧ Int32.toInt x7 < 600) from by omega)) C0 hH hS clX10 rfl ⟨⟨Nat.le_of_ble_eq_true rfl, Nat.le_of_ble_eq_true rfl⟩, rfl, rfl⟩ cw_X10_299 rfl ⟨Nat.le_of_ble_eq_true rfl, Nat.le_of_ble_eq_true rfl⟩ hl.1 rfl (Nat.le_of_ble_eq_true rfl) dX10_opens_119 ⟨Nat.le_of_ble_eq_true rfl, Nat.le_of_ble_eq_true rfl⟩ (fun r8 ir8 Fr8 Gr8 _ locs hp hH hS => ?_)
        obtain ⟨honr8, hT, h32r8, h47r8, hrbr8, e98r8, e99r8, e102r8⟩ := hp
        have hT : TMm ir8 Fr8 := hT
        have h32r8 : (ir8 78 32).toInt = Int32.toInt (i 78 32) + 1 := h32r8
        have h47r8 : Int32.toInt (i 78 47) ≤ (ir8 78 47).toInt ∧ (ir8 78 47).toInt ≤ Int32.toInt (i 78 47) + 1 := h47r8
        have hrIr8 : Int32.toInt r8 = Int32.toInt (i 78 32) := congrArg Int32.toInt hrbr8
        have hTL := TMm.lin hT
        have hTK : TKm ir8 Fr8 := TKm.ro (i := i) (F := F) hTK honr8 (by decide)
        have hPI : PLI ir8 := PLI.ro (i := i) (F := F) hPI honr8 (by decide)
        have hP : PMm k ir8 Fr8 := PMm.nb (i := i) (F := F) hP (by omega) h32r8 e98r8 e99r8 e102r8 (honr8.2 113 (by decide)).1 (honr8.1 78 51 (Or.inr (by decide)))
        have hBR : BR ir8 := BR.ro (i := i) (F := F) hBR honr8 (by decide)
        have ek_40r8 : Int32.toInt (ir8 78 40) = Int32.toInt (i 78 40) := congrArg Int32.toInt (honr8.1 78 40 (Or.inr (by decide)))
        have ek_51r8 : Int32.toInt (ir8 78 51) = Int32.toInt (i 78 51) := congrArg Int32.toInt (honr8.1 78 51 (Or.inr (by decide)))
        have ek_19r8 : Int32.toInt (ir8 78 19) = Int32.toInt (i 78 19) := congrArg Int32.toInt (honr8.1 78 19 (Or.inr (by decide)))
        have hTKl := hTK.1
        refine lv_istore (pc := 122) (lv' := [(5, .int r8), (4, .int 0), (3, .int 1), (0, .ref (b + 78)), (1, .int x), (2, .int y)]) C0.1 C0.2.1 dX10_opens_122 hl (by decide) rfl (fun ls hl => ?_)
        refine lv_iconst (pc := 124) (v := 0) C0.1 C0.2.1 dX10_opens_124 (by decide) ?_
        exact xzret (pc := 125) C0 hr hH hS dX10_opens_125 (by decide) ⟨(RO.tr RO.rf honr8 (by decide) (by decide)), hT, hP, hPI, (by decide), (show Int32.toInt (ir8 78 32) ≤ _ ∧ Int32.toInt (ir8 78 40) ≤ _ + Int32.toInt 0 ∧ Int32.toInt (ir8 78 47) ≤ _ + 1 + Int32.toInt 0 from by have : Int32.toInt 0 = 0 := rfl; have : Int32.toInt 1 = 1 := rfl; omega), (show _ ≤ Int32.toInt (ir8 78 32) from by omega)⟩
      · have : Int32.toInt 1 = 1 := rfl
        have c5 := congrArg Int32.toInt c5
        refine lv_iload (pc := 59) C0.1 C0.2.1 dX10_opens_59 (lv_at hl 0 rfl) ?_
        refine lv_if_eq (pc := 61) (tgt := 86) C0.1 C0.2.1 dX10_opens_61 (by decide) (fun _ => ?_) (fun c => absurd (by decide) c)
        refine lv_aload_n (pc := 86) C0.1 C0.2.1 dX10_opens_86 rfl (lv_at hl 2 rfl) ?_
        refine lv_iconst (pc := 87) (v := 3) C0.1 C0.2.1 dX10_opens_87 (by decide) ?_
        refine lv_aload_n (pc := 88) C0.1 C0.2.1 dX10_opens_88 rfl (lv_at hl 2 rfl) ?_
        refine xget (pc := 89) C0 hH 78 21 clX10 ⟨Nat.le_of_ble_eq_true rfl, Nat.le_of_ble_eq_true rfl⟩ ⟨rfl, rfl⟩ (Nat.le_of_ble_eq_true rfl) fl_X10_45 (v := .ref (b + 89)) rfl dX10_opens_89 ?_
        refine lv_iload_n (pc := 92) C0.1 C0.2.1 dX10_opens_92 rfl (lv_at hl 4 rfl) ?_
        refine xiald (pc := 93) (N := 600) C0 hH 89 ⟨Nat.le_of_ble_eq_true rfl, Nat.le_of_ble_eq_true rfl⟩ ⟨rfl, rfl⟩ (vI (by omega) (by omega)) dX10_opens_93 ?_
        refine xcVI (pc := 94) 78 [.int 3, .int (F 89 (Int32.toNatClampNeg y))] (m_fail l D tA b i F G 3 (F 89 (Int32.toNatClampNeg y))) C0 hH hS clX10 rfl ⟨⟨Nat.le_of_ble_eq_true rfl, Nat.le_of_ble_eq_true rfl⟩, rfl, rfl⟩ cw_X10_254 rfl ⟨Nat.le_of_ble_eq_true rfl, Nat.le_of_ble_eq_true rfl⟩ hl.1 rfl (Nat.le_of_ble_eq_true rfl) dX10_opens_94 ⟨Nat.le_of_ble_eq_true rfl, Nat.le_of_ble_eq_true rfl⟩ (fun r9 ir9 Fr9 Gr9 _ locs hp hH hS => ?_)
        obtain ⟨hu, rfl⟩ := hp
        cases hu
        have hH : Hd D tA b 78 52 zz (up2 (up2 i 78 30 3) 78 31 (F 89 (Int32.toNatClampNeg y))) F G _ := hH
        exact xzret (pc := 97) C0 hr hH hS dX10_opens_97 (by decide) ⟨(RO.i (RO.i RO.rf (by decide)) (by decide)), hT, hP, (Or.inr (show 0 ≤ Int32.toInt (F 89 (Int32.toNatClampNeg y)) ∧ Int32.toInt (F 89 (Int32.toNatClampNeg y)) ≤ 600 from by have := hTK.2.1 (Int32.toNatClampNeg y); omega)), (by decide), (show Int32.toInt (i 78 32) ≤ _ ∧ Int32.toInt (i 78 40) ≤ _ + Int32.toInt 0 ∧ Int32.toInt (i 78 47) ≤ _ + 1 + Int32.toInt 0 from by have : Int32.toInt 0 = 0 := rfl; have : Int32.toInt 1 = 1 := rfl; omega), (show _ ≤ Int32.toInt (i 78 32) from by omega)⟩
    · have c4 : ¬ _ := fun q => c4 (Int32.le_iff_toInt_le.mpr q)
      refine lv_iload_n (pc := 43) C0.1 C0.2.1 dX10_opens_43 rfl (lv_at hl 0 rfl) ?_
      refine lv_if_ne (pc := 44) (tgt := 51) C0.1 C0.2.1 dX10_opens_44 (by decide) (fun _ => ?_) (fun c => absurd c (by decide))
      refine lv_iconst (pc := 51) (v := 0) C0.1 C0.2.1 dX10_opens_51 (by decide) ?_
      refine lv_istore (pc := 52) (lv' := [(4, .int 0), (3, .int 1), (0, .ref (b + 78)), (1, .int x), (2, .int y)]) C0.1 C0.2.1 dX10_opens_52 hl (by decide) rfl (fun ls hl => ?_)
      refine lv_iload_n (pc := 54) C0.1 C0.2.1 dX10_opens_54 rfl (lv_at hl 3 rfl) ?_
      refine lv_iconst (pc := 55) (v := 1) C0.1 C0.2.1 dX10_opens_55 (by decide) ?_
      refine lv_icmp_ne (pc := 56) (tgt := 98) C0.1 C0.2.1 dX10_opens_56 (by decide) (fun c10 => ?_) (fun c10 => ?_)
      · have : Int32.toInt 1 = 1 := rfl
        have c10 : ¬ _ := fun q => c10 (Int32.toInt_inj.mp q)
        refine lv_iload (pc := 98) C0.1 C0.2.1 dX10_opens_98 (lv_at hl 0 rfl) ?_
        refine lv_if_ne (pc := 100) (tgt := 126) C0.1 C0.2.1 dX10_opens_100 (by decide) (fun c => absurd (by decide) c) (fun _ => ?_)
        refine lv_aload_n (pc := 103) C0.1 C0.2.1 dX10_opens_103 rfl (lv_at hl 2 rfl) ?_
        refine lv_iload_n (pc := 104) C0.1 C0.2.1 dX10_opens_104 rfl (lv_at hl 3 rfl) ?_
        refine lv_bipush (pc := 105) (v := (-9)) C0.1 C0.2.1 dX10_opens_105 (by decide) ?_
        refine lv_aload_n (pc := 107) C0.1 C0.2.1 dX10_opens_107 rfl (lv_at hl 2 rfl) ?_
        refine xget (pc := 108) C0 hH 78 39 clX10 ⟨Nat.le_of_ble_eq_true rfl, Nat.le_of_ble_eq_true rfl⟩ ⟨rfl, rfl⟩ (Nat.le_of_ble_eq_true rfl) fl_X10_91 (v := .ref (b + 104)) rfl dX10_opens_108 ?_
        refine lv_aload_n (pc := 111) C0.1 C0.2.1 dX10_opens_111 rfl (lv_at hl 2 rfl) ?_
        refine xcVI (pc := 112) 78 [] (m_topmost l D tA b i F G k hT hP) C0 hH hS clX10 rfl ⟨⟨Nat.le_of_ble_eq_true rfl, Nat.le_of_ble_eq_true rfl⟩, rfl, rfl⟩ cw_X10_296 rfl ⟨Nat.le_of_ble_eq_true rfl, Nat.le_of_ble_eq_true rfl⟩ hl.1 rfl (Nat.le_of_ble_eq_true rfl) dX10_opens_112 ⟨Nat.le_of_ble_eq_true rfl, Nat.le_of_ble_eq_true rfl⟩ (fun r11 ir11 Fr11 Gr11 _ locs hp hH hS => ?_)
        obtain ⟨hu, htpr11, htqr11, htzr11⟩ := hp
        cases hu
        have hBtr11 := TMm.bt hT (x := r11) (show 0 ≤ Int32.toInt r11 ∧ Int32.toInt r11 < Int32.toInt (i 78 32) from htpr11)
        refine xiald (pc := 115) (N := 1202) C0 hH 104 ⟨Nat.le_of_ble_eq_true rfl, Nat.le_of_ble_eq_true rfl⟩ ⟨rfl, rfl⟩ (vI (by omega) (by omega)) dX10_opens_115 ?_
        have hv9 := htqr11 (Or.inr hk0)
        refine lv_iload_n (pc := 116) C0.1 C0.2.1 dX10_opens_116 rfl (lv_at hl 4 rfl) ?_
        refine lv_iconst (pc := 117) (v := 1) C0.1 C0.2.1 dX10_opens_117 (by decide) ?_
        have : Int32.toInt 1 = 1 := rfl
        refine lv_isub (pc := 118) C0.1 C0.2.1 dX10_opens_118 ?_
        refine lv_topi (fun x12 ex12 => ?_)
        have hx12 : Int32.toInt x12 = Int32.toInt y - Int32.toInt 1 := by rw [ex12]; exact fb_subI (by omega) (by omega)
        refine xcVI (pc := 119) 78 [.int x, .int (-9), .int (F 104 (Int32.toNatClampNeg r11)), .int x12] (m_newBlock l D tA b i F G x (-9) (F 104 (Int32.toNatClampNeg r11)) x12 hT (show Int32.toInt (i 78 32) < 1202 from by omega) (show Int32.toInt (i 78 47) < 1802 from by omega) (show (Int32.toInt (i 78 32) = 0 ∧ Int32.toInt (F 104 (Int32.toNatClampNeg r11)) = -9) ∨ (1 ≤ Int32.toInt (i 78 32) ∧ (0 ≤ Int32.toInt (F 104 (Int32.toNatClampNeg r11)) ∧ Int32.toInt (F 104 (Int32.toNatClampNeg r11)) < Int32.toInt (i 78 40)) ∧ 0 ≤ Int32.toInt x12 ∧ Int32.toInt x12 < 600) from by omega)) C0 hH hS clX10 rfl ⟨⟨Nat.le_of_ble_eq_true rfl, Nat.le_of_ble_eq_true rfl⟩, rfl, rfl⟩ cw_X10_299 rfl ⟨Nat.le_of_ble_eq_true rfl, Nat.le_of_ble_eq_true rfl⟩ hl.1 rfl (Nat.le_of_ble_eq_true rfl) dX10_opens_119 ⟨Nat.le_of_ble_eq_true rfl, Nat.le_of_ble_eq_true rfl⟩ (fun r13 ir13 Fr13 Gr13 _ locs hp hH hS => ?_)
        obtain ⟨honr13, hT, h32r13, h47r13, hrbr13, e98r13, e99r13, e102r13⟩ := hp
        have hT : TMm ir13 Fr13 := hT
        have h32r13 : (ir13 78 32).toInt = Int32.toInt (i 78 32) + 1 := h32r13
        have h47r13 : Int32.toInt (i 78 47) ≤ (ir13 78 47).toInt ∧ (ir13 78 47).toInt ≤ Int32.toInt (i 78 47) + 1 := h47r13
        have hrIr13 : Int32.toInt r13 = Int32.toInt (i 78 32) := congrArg Int32.toInt hrbr13
        have hTL := TMm.lin hT
        have hTK : TKm ir13 Fr13 := TKm.ro (i := i) (F := F) hTK honr13 (by decide)
        have hPI : PLI ir13 := PLI.ro (i := i) (F := F) hPI honr13 (by decide)
        have hP : PMm k ir13 Fr13 := PMm.nb (i := i) (F := F) hP (by omega) h32r13 e98r13 e99r13 e102r13 (honr13.2 113 (by decide)).1 (honr13.1 78 51 (Or.inr (by decide)))
        have hBR : BR ir13 := BR.ro (i := i) (F := F) hBR honr13 (by decide)
        have ek_40r13 : Int32.toInt (ir13 78 40) = Int32.toInt (i 78 40) := congrArg Int32.toInt (honr13.1 78 40 (Or.inr (by decide)))
        have ek_51r13 : Int32.toInt (ir13 78 51) = Int32.toInt (i 78 51) := congrArg Int32.toInt (honr13.1 78 51 (Or.inr (by decide)))
        have ek_19r13 : Int32.toInt (ir13 78 19) = Int32.toInt (i 78 19) := congrArg Int32.toInt (honr13.1 78 19 (Or.inr (by decide)))
        have hTKl := hTK.1
        refine lv_istore (pc := 122) (lv' := [(5, .int r13), (4, .int 0), (3, .int 1), (0, .ref (b + 78)), (1, .int x), (2, .int y)]) C0.1 C0.2.1 dX10_opens_122 hl (by decide) rfl (fun ls hl => ?_)
        refine lv_iconst (pc := 124) (v := 0) C0.1 C0.2.1 dX10_opens_124 (by decide) ?_
        exact xzret (pc := 125) C0 hr hH hS dX10_opens_125 (by decide) ⟨(RO.tr RO.rf honr13 (by decide) (by decide)), hT, hP, hPI, (by decide), (show Int32.toInt (ir13 78 32) ≤ _ ∧ Int32.toInt (ir13 78 40) ≤ _ + Int32.toInt 0 ∧ Int32.toInt (ir13 78 47) ≤ _ + 1 + Int32.toInt 0 from by have : Int32.toInt 0 = 0 := rfl; have : Int32.toInt 1 = 1 := rfl; omega), (show _ ≤ Int32.toInt (ir13 78 32) from by omega)⟩
      · have : Int32.toInt 1 = 1 := rfl
        have c10 := congrArg Int32.toInt c10
        refine lv_iload (pc := 59) C0.1 C0.2.1 dX10_opens_59 (lv_at hl 0 rfl) ?_
        refine lv_if_eq (pc := 61) (tgt := 86) C0.1 C0.2.1 dX10_opens_61 (by decide) (fun _ => ?_) (fun c => absurd (by decide) c)
        refine lv_aload_n (pc := 86) C0.1 C0.2.1 dX10_opens_86 rfl (lv_at hl 2 rfl) ?_
        refine lv_iconst (pc := 87) (v := 3) C0.1 C0.2.1 dX10_opens_87 (by decide) ?_
        refine lv_aload_n (pc := 88) C0.1 C0.2.1 dX10_opens_88 rfl (lv_at hl 2 rfl) ?_
        refine xget (pc := 89) C0 hH 78 21 clX10 ⟨Nat.le_of_ble_eq_true rfl, Nat.le_of_ble_eq_true rfl⟩ ⟨rfl, rfl⟩ (Nat.le_of_ble_eq_true rfl) fl_X10_45 (v := .ref (b + 89)) rfl dX10_opens_89 ?_
        refine lv_iload_n (pc := 92) C0.1 C0.2.1 dX10_opens_92 rfl (lv_at hl 4 rfl) ?_
        refine xiald (pc := 93) (N := 600) C0 hH 89 ⟨Nat.le_of_ble_eq_true rfl, Nat.le_of_ble_eq_true rfl⟩ ⟨rfl, rfl⟩ (vI (by omega) (by omega)) dX10_opens_93 ?_
        refine xcVI (pc := 94) 78 [.int 3, .int (F 89 (Int32.toNatClampNeg y))] (m_fail l D tA b i F G 3 (F 89 (Int32.toNatClampNeg y))) C0 hH hS clX10 rfl ⟨⟨Nat.le_of_ble_eq_true rfl, Nat.le_of_ble_eq_true rfl⟩, rfl, rfl⟩ cw_X10_254 rfl ⟨Nat.le_of_ble_eq_true rfl, Nat.le_of_ble_eq_true rfl⟩ hl.1 rfl (Nat.le_of_ble_eq_true rfl) dX10_opens_94 ⟨Nat.le_of_ble_eq_true rfl, Nat.le_of_ble_eq_true rfl⟩ (fun r14 ir14 Fr14 Gr14 _ locs hp hH hS => ?_)
        obtain ⟨hu, rfl⟩ := hp
        cases hu
        have hH : Hd D tA b 78 52 zz (up2 (up2 i 78 30 3) 78 31 (F 89 (Int32.toNatClampNeg y))) F G _ := hH
        exact xzret (pc := 97) C0 hr hH hS dX10_opens_97 (by decide) ⟨(RO.i (RO.i RO.rf (by decide)) (by decide)), hT, hP, (Or.inr (show 0 ≤ Int32.toInt (F 89 (Int32.toNatClampNeg y)) ∧ Int32.toInt (F 89 (Int32.toNatClampNeg y)) ≤ 600 from by have := hTK.2.1 (Int32.toNatClampNeg y); omega)), (by decide), (show Int32.toInt (i 78 32) ≤ _ ∧ Int32.toInt (i 78 40) ≤ _ + Int32.toInt 0 ∧ Int32.toInt (i 78 47) ≤ _ + 1 + Int32.toInt 0 from by have : Int32.toInt 0 = 0 := rfl; have : Int32.toInt 1 = 1 := rfl; omega), (show _ ≤ Int32.toInt (i 78 32) from by omega)⟩
  · have : Int32.toInt 0 = 0 := rfl
    have c2 := congrArg Int32.toInt c2
    refine lv_aload_n (pc := 8) C0.1 C0.2.1 dX10_opens_8 rfl (lv_at hl 0 rfl) ?_
    refine lv_iload_n (pc := 9) C0.1 C0.2.1 dX10_opens_9 rfl (lv_at hl 2 rfl) ?_
    refine lv_iconst (pc := 10) (v := 0) C0.1 C0.2.1 dX10_opens_10 (by decide) ?_
    refine xcVI (pc := 11) 78 [.int y, .int 0] (m_pairOf l D tA b i F G y 0 hBR (by omega)) C0 hH hS clX10 rfl ⟨⟨Nat.le_of_ble_eq_true rfl, Nat.le_of_ble_eq_true rfl⟩, rfl, rfl⟩ cw_X10_310 rfl ⟨Nat.le_of_ble_eq_true rfl, Nat.le_of_ble_eq_true rfl⟩ hl.1 rfl (Nat.le_of_ble_eq_true rfl) dX10_opens_11 ⟨Nat.le_of_ble_eq_true rfl, Nat.le_of_ble_eq_true rfl⟩ (fun r15 ir15 Fr15 Gr15 _ locs hp hH hS => ?_)
    obtain ⟨hu, hpr15⟩ := hp
    cases hu
    refine lv_bipush (pc := 14) (v := (-9)) C0.1 C0.2.1 dX10_opens_14 (by decide) ?_
    refine lv_icmp_eq (pc := 16) (tgt := 23) C0.1 C0.2.1 dX10_opens_16 (by decide) (fun c16 => ?_) (fun c16 => ?_)
    · have : Int32.toInt (-9) = (-9) := rfl
      have c16 := congrArg Int32.toInt c16
      refine lv_iconst (pc := 23) (v := 0) C0.1 C0.2.1 dX10_opens_23 (by decide) ?_
      refine lv_istore_n (pc := 24) (lv' := [(3, .int 0), (0, .ref (b + 78)), (1, .int x), (2, .int y)]) C0.1 C0.2.1 dX10_opens_24 rfl hl (by decide) rfl (fun ls hl => ?_)
      refine lv_aload_n (pc := 25) C0.1 C0.2.1 dX10_opens_25 rfl (lv_at hl 1 rfl) ?_
      refine xget (pc := 26) C0 hH 78 24 clX10 ⟨Nat.le_of_ble_eq_true rfl, Nat.le_of_ble_eq_true rfl⟩ ⟨rfl, rfl⟩ (Nat.le_of_ble_eq_true rfl) fl_X10_54 (v := .ref (b + 92)) rfl dX10_opens_26 ?_
      refine lv_iload_n (pc := 29) C0.1 C0.2.1 dX10_opens_29 rfl (lv_at hl 3 rfl) ?_
      refine xiald (pc := 30) (N := 600) C0 hH 92 ⟨Nat.le_of_ble_eq_true rfl, Nat.le_of_ble_eq_true rfl⟩ ⟨rfl, rfl⟩ (vI (by omega) (by omega)) dX10_opens_30 ?_
      refine lv_aload_n (pc := 31) C0.1 C0.2.1 dX10_opens_31 rfl (lv_at hl 1 rfl) ?_
      refine xget (pc := 32) C0 hH 78 34 clX10 ⟨Nat.le_of_ble_eq_true rfl, Nat.le_of_ble_eq_true rfl⟩ ⟨rfl, rfl⟩ (Nat.le_of_ble_eq_true rfl) fl_X10_76 (v := .ref (b + 99)) rfl dX10_opens_32 ?_
      refine lv_aload_n (pc := 35) C0.1 C0.2.1 dX10_opens_35 rfl (lv_at hl 1 rfl) ?_
      refine xcVI (pc := 36) 78 [] (m_topmost l D tA b i F G k hT hP) C0 hH hS clX10 rfl ⟨⟨Nat.le_of_ble_eq_true rfl, Nat.le_of_ble_eq_true rfl⟩, rfl, rfl⟩ cw_X10_296 rfl ⟨Nat.le_of_ble_eq_true rfl, Nat.le_of_ble_eq_true rfl⟩ hl.1 rfl (Nat.le_of_ble_eq_true rfl) dX10_opens_36 ⟨Nat.le_of_ble_eq_true rfl, Nat.le_of_ble_eq_true rfl⟩ (fun r17 ir17 Fr17 Gr17 _ locs hp hH hS => ?_)
      obtain ⟨hu, htpr17, htqr17, htzr17⟩ := hp
      cases hu
      have hBtr17 := TMm.bt hT (x := r17) (show 0 ≤ Int32.toInt r17 ∧ Int32.toInt r17 < Int32.toInt (i 78 32) from htpr17)
      refine xiald (pc := 39) (N := 1202) C0 hH 99 ⟨Nat.le_of_ble_eq_true rfl, Nat.le_of_ble_eq_true rfl⟩ ⟨rfl, rfl⟩ (vI (by omega) (by omega)) dX10_opens_39 ?_
      refine lv_icmp_le (pc := 40) (tgt := 51) C0.1 C0.2.1 dX10_opens_40 (by decide) (fun c18 => ?_) (fun c18 => ?_)
      · have c18 := Int32.le_iff_toInt_le.mp c18
        refine lv_iconst (pc := 51) (v := 0) C0.1 C0.2.1 dX10_opens_51 (by decide) ?_
        refine lv_istore (pc := 52) (lv' := [(4, .int 0), (3, .int 0), (0, .ref (b + 78)), (1, .int x), (2, .int y)]) C0.1 C0.2.1 dX10_opens_52 hl (by decide) rfl (fun ls hl => ?_)
        refine lv_iload_n (pc := 54) C0.1 C0.2.1 dX10_opens_54 rfl (lv_at hl 3 rfl) ?_
        refine lv_iconst (pc := 55) (v := 1) C0.1 C0.2.1 dX10_opens_55 (by decide) ?_
        refine lv_icmp_ne (pc := 56) (tgt := 98) C0.1 C0.2.1 dX10_opens_56 (by decide) (fun c19 => ?_) (fun c19 => ?_)
        · have : Int32.toInt 1 = 1 := rfl
          have c19 : ¬ _ := fun q => c19 (Int32.toInt_inj.mp q)
          refine lv_iload (pc := 98) C0.1 C0.2.1 dX10_opens_98 (lv_at hl 0 rfl) ?_
          refine lv_if_ne (pc := 100) (tgt := 126) C0.1 C0.2.1 dX10_opens_100 (by decide) (fun c => absurd (by decide) c) (fun _ => ?_)
          refine lv_aload_n (pc := 103) C0.1 C0.2.1 dX10_opens_103 rfl (lv_at hl 2 rfl) ?_
          refine lv_iload_n (pc := 104) C0.1 C0.2.1 dX10_opens_104 rfl (lv_at hl 3 rfl) ?_
          refine lv_bipush (pc := 105) (v := (-9)) C0.1 C0.2.1 dX10_opens_105 (by decide) ?_
          refine lv_aload_n (pc := 107) C0.1 C0.2.1 dX10_opens_107 rfl (lv_at hl 2 rfl) ?_
          refine xget (pc := 108) C0 hH 78 39 clX10 ⟨Nat.le_of_ble_eq_true rfl, Nat.le_of_ble_eq_true rfl⟩ ⟨rfl, rfl⟩ (Nat.le_of_ble_eq_true rfl) fl_X10_91 (v := .ref (b + 104)) rfl dX10_opens_108 ?_
          refine lv_aload_n (pc := 111) C0.1 C0.2.1 dX10_opens_111 rfl (lv_at hl 2 rfl) ?_
          refine xcVI (pc := 112) 78 [] (m_topmost l D tA b i F G k hT hP) C0 hH hS clX10 rfl ⟨⟨Nat.le_of_ble_eq_true rfl, Nat.le_of_ble_eq_true rfl⟩, rfl, rfl⟩ cw_X10_296 rfl ⟨Nat.le_of_ble_eq_true rfl, Nat.le_of_ble_eq_true rfl⟩ hl.1 rfl (Nat.le_of_ble_eq_true rfl) dX10_opens_112 ⟨Nat.le_of_ble_eq_true rfl, Nat.le_of_ble_eq_true rfl⟩ (fun r20 ir20 Fr20 Gr20 _ locs hp hH hS => ?_)
          obtain ⟨hu, htpr20, htqr20, htzr20⟩ := hp
          cases hu
          have hBtr20 := TMm.bt hT (x := r20) (show 0 ≤ Int32.toInt r20 ∧ Int32.toInt r20 < Int32.toInt (i 78 32) from htpr20)
          refine xiald (pc := 115) (N := 1202) C0 hH 104 ⟨Nat.le_of_ble_eq_true rfl, Nat.le_of_ble_eq_true rfl⟩ ⟨rfl, rfl⟩ (vI (by omega) (by omega)) dX10_opens_115 ?_
          have hv9 := htqr20 (Or.inr hk0)
          refine lv_iload_n (pc := 116) C0.1 C0.2.1 dX10_opens_116 rfl (lv_at hl 4 rfl) ?_
          refine lv_iconst (pc := 117) (v := 1) C0.1 C0.2.1 dX10_opens_117 (by decide) ?_
          have : Int32.toInt 1 = 1 := rfl
          refine lv_isub (pc := 118) C0.1 C0.2.1 dX10_opens_118 ?_
          refine lv_topi (fun x21 ex21 => ?_)
          have hx21 : Int32.toInt x21 = Int32.toInt y - Int32.toInt 1 := by rw [ex21]; exact fb_subI (by omega) (by omega)
          refine xcVI (pc := 119) 78 [.int x, .int (-9), .int (F 104 (Int32.toNatClampNeg r20)), .int x21] (m_newBlock l D tA b i F G x (-9) (F 104 (Int32.toNatClampNeg r20)) x21 hT (show Int32.toInt (i 78 32) < 1202 from by omega) (show Int32.toInt (i 78 47) < 1802 from by omega) (show (Int32.toInt (i 78 32) = 0 ∧ Int32.toInt (F 104 (Int32.toNatClampNeg r20)) = -9) ∨ (1 ≤ Int32.toInt (i 78 32) ∧ (0 ≤ Int32.toInt (F 104 (Int32.toNatClampNeg r20)) ∧ Int32.toInt (F 104 (Int32.toNatClampNeg r20)) < Int32.toInt (i 78 40)) ∧ 0 ≤ Int32.toInt x21 ∧ Int32.toInt x21 < 600) from by omega)) C0 hH hS clX10 rfl ⟨⟨Nat.le_of_ble_eq_true rfl, Nat.le_of_ble_eq_true rfl⟩, rfl, rfl⟩ cw_X10_299 rfl ⟨Nat.le_of_ble_eq_true rfl, Nat.le_of_ble_eq_true rfl⟩ hl.1 rfl (Nat.le_of_ble_eq_true rfl) dX10_opens_119 ⟨Nat.le_of_ble_eq_true rfl, Nat.le_of_ble_eq_true rfl⟩ (fun r22 ir22 Fr22 Gr22 _ locs hp hH hS => ?_)
          obtain ⟨honr22, hT, h32r22, h47r22, hrbr22, e98r22, e99r22, e102r22⟩ := hp
          have hT : TMm ir22 Fr22 := hT
          have h32r22 : (ir22 78 32).toInt = Int32.toInt (i 78 32) + 1 := h32r22
          have h47r22 : Int32.toInt (i 78 47) ≤ (ir22 78 47).toInt ∧ (ir22 78 47).toInt ≤ Int32.toInt (i 78 47) + 1 := h47r22
          have hrIr22 : Int32.toInt r22 = Int32.toInt (i 78 32) := congrArg Int32.toInt hrbr22
          have hTL := TMm.lin hT
          have hTK : TKm ir22 Fr22 := TKm.ro (i := i) (F := F) hTK honr22 (by decide)
          have hPI : PLI ir22 := PLI.ro (i := i) (F := F) hPI honr22 (by decide)
          have hP : PMm k ir22 Fr22 := PMm.nb (i := i) (F := F) hP (by omega) h32r22 e98r22 e99r22 e102r22 (honr22.2 113 (by decide)).1 (honr22.1 78 51 (Or.inr (by decide)))
          have hBR : BR ir22 := BR.ro (i := i) (F := F) hBR honr22 (by decide)
          have ek_40r22 : Int32.toInt (ir22 78 40) = Int32.toInt (i 78 40) := congrArg Int32.toInt (honr22.1 78 40 (Or.inr (by decide)))
          have ek_51r22 : Int32.toInt (ir22 78 51) = Int32.toInt (i 78 51) := congrArg Int32.toInt (honr22.1 78 51 (Or.inr (by decide)))
          have ek_19r22 : Int32.toInt (ir22 78 19) = Int32.toInt (i 78 19) := congrArg Int32.toInt (honr22.1 78 19 (Or.inr (by decide)))
          have hTKl := hTK.1
          refine lv_istore (pc := 122) (lv' := [(5, .int r22), (4, .int 0), (3, .int 0), (0, .ref (b + 78)), (1, .int x), (2, .int y)]) C0.1 C0.2.1 dX10_opens_122 hl (by decide) rfl (fun ls hl => ?_)
          refine lv_iconst (pc := 124) (v := 0) C0.1 C0.2.1 dX10_opens_124 (by decide) ?_
          exact xzret (pc := 125) C0 hr hH hS dX10_opens_125 (by decide) ⟨(RO.tr RO.rf honr22 (by decide) (by decide)), hT, hP, hPI, (by decide), (show Int32.toInt (ir22 78 32) ≤ _ ∧ Int32.toInt (ir22 78 40) ≤ _ + Int32.toInt 0 ∧ Int32.toInt (ir22 78 47) ≤ _ + 1 + Int32.toInt 0 from by have : Int32.toInt 0 = 0 := rfl; have : Int32.toInt 1 = 1 := rfl; omega), (show _ ≤ Int32.toInt (ir22 78 32) from by omega)⟩
        · have : Int32.toInt 1 = 1 := rfl
          have c19 := congrArg Int32.toInt c19
          refine lv_iload (pc := 59) C0.1 C0.2.1 dX10_opens_59 (lv_at hl 0 rfl) ?_
          refine lv_if_eq (pc := 61) (tgt := 86) C0.1 C0.2.1 dX10_opens_61 (by decide) (fun _ => ?_) (fun c => absurd (by decide) c)
          refine lv_aload_n (pc := 86) C0.1 C0.2.1 dX10_opens_86 rfl (lv_at hl 2 rfl) ?_
          refine lv_iconst (pc := 87) (v := 3) C0.1 C0.2.1 dX10_opens_87 (by decide) ?_
          refine lv_aload_n (pc := 88) C0.1 C0.2.1 dX10_opens_88 rfl (lv_at hl 2 rfl) ?_
          refine xget (pc := 89) C0 hH 78 21 clX10 ⟨Nat.le_of_ble_eq_true rfl, Nat.le_of_ble_eq_true rfl⟩ ⟨rfl, rfl⟩ (Nat.le_of_ble_eq_true rfl) fl_X10_45 (v := .ref (b + 89)) rfl dX10_opens_89 ?_
          refine lv_iload_n (pc := 92) C0.1 C0.2.1 dX10_opens_92 rfl (lv_at hl 4 rfl) ?_
          refine xiald (pc := 93) (N := 600) C0 hH 89 ⟨Nat.le_of_ble_eq_true rfl, Nat.le_of_ble_eq_true rfl⟩ ⟨rfl, rfl⟩ (vI (by omega) (by omega)) dX10_opens_93 ?_
          refine xcVI (pc := 94) 78 [.int 3, .int (F 89 (Int32.toNatClampNeg y))] (m_fail l D tA b i F G 3 (F 89 (Int32.toNatClampNeg y))) C0 hH hS clX10 rfl ⟨⟨Nat.le_of_ble_eq_true rfl, Nat.le_of_ble_eq_true rfl⟩, rfl, rfl⟩ cw_X10_254 rfl ⟨Nat.le_of_ble_eq_true rfl, Nat.le_of_ble_eq_true rfl⟩ hl.1 rfl (Nat.le_of_ble_eq_true rfl) dX10_opens_94 ⟨Nat.le_of_ble_eq_true rfl, Nat.le_of_ble_eq_true rfl⟩ (fun r23 ir23 Fr23 Gr23 _ locs hp hH hS => ?_)
          obtain ⟨hu, rfl⟩ := hp
          cases hu
          have hH : Hd D tA b 78 52 zz (up2 (up2 i 78 30 3) 78 31 (F 89 (Int32.toNatClampNeg y))) F G _ := hH
          exact xzret (pc := 97) C0 hr hH hS dX10_opens_97 (by decide) ⟨(RO.i (RO.i RO.rf (by decide)) (by decide)), hT, hP, (Or.inr (show 0 ≤ Int32.toInt (F 89 (Int32.toNatClampNeg y)) ∧ Int32.toInt (F 89 (Int32.toNatClampNeg y)) ≤ 600 from by have := hTK.2.1 (Int32.toNatClampNeg y); omega)), (by decide), (show Int32.toInt (i 78 32) ≤ _ ∧ Int32.toInt (i 78 40) ≤ _ + Int32.toInt 0 ∧ Int32.toInt (i 78 47) ≤ _ + 1 + Int32.toInt 0 from by have : Int32.toInt 0 = 0 := rfl; have : Int32.toInt 1 = 1 := rfl; omega), (show _ ≤ Int32.toInt (i 78 32) from by omega)⟩
      · have c18 : ¬ _ := fun q => c18 (Int32.le_iff_toInt_le.mpr q)
        refine lv_iload_n (pc := 43) C0.1 C0.2.1 dX10_opens_43 rfl (lv_at hl 0 rfl) ?_
        refine lv_if_ne (pc := 44) (tgt := 51) C0.1 C0.2.1 dX10_opens_44 (by decide) (fun c => absurd (by decide) c) (fun _ => ?_)
        refine lv_iconst (pc := 47) (v := 1) C0.1 C0.2.1 dX10_opens_47 (by decide) ?_
        refine lv_goto (pc := 48) (tgt := 52) C0.1 C0.2.1 dX10_opens_48 (by decide) ?_
        refine lv_istore (pc := 52) (lv' := [(4, .int 1), (3, .int 0), (0, .ref (b + 78)), (1, .int x), (2, .int y)]) C0.1 C0.2.1 dX10_opens_52 hl (by decide) rfl (fun ls hl => ?_)
        refine lv_iload_n (pc := 54) C0.1 C0.2.1 dX10_opens_54 rfl (lv_at hl 3 rfl) ?_
        refine lv_iconst (pc := 55) (v := 1) C0.1 C0.2.1 dX10_opens_55 (by decide) ?_
        refine lv_icmp_ne (pc := 56) (tgt := 98) C0.1 C0.2.1 dX10_opens_56 (by decide) (fun c24 => ?_) (fun c24 => ?_)
        · have : Int32.toInt 1 = 1 := rfl
          have c24 : ¬ _ := fun q => c24 (Int32.toInt_inj.mp q)
          refine lv_iload (pc := 98) C0.1 C0.2.1 dX10_opens_98 (lv_at hl 0 rfl) ?_
          refine lv_if_ne (pc := 100) (tgt := 126) C0.1 C0.2.1 dX10_opens_100 (by decide) (fun _ => ?_) (fun c => absurd c (by decide))
          refine lv_aload_n (pc := 126) C0.1 C0.2.1 dX10_opens_126 rfl (lv_at hl 2 rfl) ?_
          refine lv_iload_n (pc := 127) C0.1 C0.2.1 dX10_opens_127 rfl (lv_at hl 3 rfl) ?_
          refine lv_aload_n (pc := 128) C0.1 C0.2.1 dX10_opens_128 rfl (lv_at hl 2 rfl) ?_
          refine xget (pc := 129) C0 hH 78 24 clX10 ⟨Nat.le_of_ble_eq_true rfl, Nat.le_of_ble_eq_true rfl⟩ ⟨rfl, rfl⟩ (Nat.le_of_ble_eq_true rfl) fl_X10_54 (v := .ref (b + 92)) rfl dX10_opens_129 ?_
          refine lv_iload_n (pc := 132) C0.1 C0.2.1 dX10_opens_132 rfl (lv_at hl 4 rfl) ?_
          refine xiald (pc := 133) (N := 600) C0 hH 92 ⟨Nat.le_of_ble_eq_true rfl, Nat.le_of_ble_eq_true rfl⟩ ⟨rfl, rfl⟩ (vI (by omega) (by omega)) dX10_opens_133 ?_
          refine lv_iload_n (pc := 134) C0.1 C0.2.1 dX10_opens_134 rfl (lv_at hl 4 rfl) ?_
          refine lv_iconst (pc := 135) (v := 1) C0.1 C0.2.1 dX10_opens_135 (by decide) ?_
          have : Int32.toInt 1 = 1 := rfl
          refine lv_isub (pc := 136) C0.1 C0.2.1 dX10_opens_136 ?_
          refine lv_topi (fun x25 ex25 => ?_)
          have hx25 : Int32.toInt x25 = Int32.toInt y - Int32.toInt 1 := by rw [ex25]; exact fb_subI (by omega) (by omega)
          refine xcVV (pc := 137) 78 [.int x, .int (F 92 (Int32.toNatClampNeg y)), .int x25] (m_begin l D tA b i F G x (F 92 (Int32.toNatClampNeg y)) x25 k hT hP (by omega) (by omega) (show Int32.toInt (i 78 32) < 1202 from by omega) (show Int32.toInt (i 78 40) < 1202 from by omega) (show Int32.toInt (i 78 47) < 1802 from by omega)) C0 hH hS clX10 rfl ⟨⟨Nat.le_of_ble_eq_true rfl, Nat.le_of_ble_eq_true rfl⟩, rfl, rfl⟩ cw_X10_316 rfl ⟨Nat.le_of_ble_eq_true rfl, Nat.le_of_ble_eq_true rfl⟩ hl.1 rfl (Nat.le_of_ble_eq_true rfl) dX10_opens_137 ⟨Nat.le_of_ble_eq_true rfl, Nat.le_of_ble_eq_true rfl⟩ (fun ir26 Fr26 Gr26 _ locs hp hH hS => ?_)
          obtain ⟨honr26, hT, hP, h32r26, h40r26, h47r26⟩ := hp
          have hT : TMm ir26 Fr26 := hT
          have hP : PMm k ir26 Fr26 := hP
          have h32r26 : (ir26 78 32).toInt = Int32.toInt (i 78 32) + 1 := h32r26
          have h40r26 : (ir26 78 40).toInt = Int32.toInt (i 78 40) + 1 := h40r26
          have h47r26 : (ir26 78 47).toInt ≤ Int32.toInt (i 78 47) + 1 := h47r26
          have hTL := TMm.lin hT
          have hPl := hP.1
          have hTK : TKm ir26 Fr26 := TKm.ro (i := i) (F := F) hTK honr26 (by decide)
          have hPI : PLI ir26 := PLI.ro (i := i) (F := F) hPI honr26 (by decide)
          have hBR : BR ir26 := BR.ro (i := i) (F := F) hBR honr26 (by decide)
          have ek_19r26 : Int32.toInt (ir26 78 19) = Int32.toInt (i 78 19) := congrArg Int32.toInt (honr26.1 78 19 (Or.inr (by decide)))
          have hTKl := hTK.1
          refine lv_aload_n (pc := 140) C0.1 C0.2.1 dX10_opens_140 rfl (lv_at hl 2 rfl) ?_
          refine lv_iload_n (pc := 141) C0.1 C0.2.1 dX10_opens_141 rfl (lv_at hl 4 rfl) ?_
          refine xcVV (pc := 142) 78 [.int y] (m_goOn l D tA b ir26 Fr26 Gr26 y k hT hP (show 1 < Int32.toInt (ir26 78 51) ∨ 0 < k from by omega) (by omega) (show Int32.toInt (ir26 78 47) < 1802 from by omega)) C0 hH hS clX10 rfl ⟨⟨Nat.le_of_ble_eq_true rfl, Nat.le_of_ble_eq_true rfl⟩, rfl, rfl⟩ cw_X10_320 rfl ⟨Nat.le_of_ble_eq_true rfl, Nat.le_of_ble_eq_true rfl⟩ hl.1 rfl (Nat.le_of_ble_eq_true rfl) dX10_opens_142 ⟨Nat.le_of_ble_eq_true rfl, Nat.le_of_ble_eq_true rfl⟩ (fun ir27 Fr27 Gr27 _ locs hp hH hS => ?_)
          obtain ⟨honr27, hT, hptr27⟩ := hp
          have hT : TMm ir27 Fr27 := hT
          have hptr27 : (ir27 78 47).toInt = Int32.toInt (ir26 78 47) + 1 := hptr27
          have hTL := TMm.lin hT
          have hP : PMm k ir27 Fr27 := PMm.ro (i := ir26) (F := Fr26) hP honr27 (by decide) (by decide)
          have hTK : TKm ir27 Fr27 := TKm.ro (i := ir26) (F := Fr26) hTK honr27 (by decide)
          have hPI : PLI ir27 := PLI.ro (i := ir26) (F := Fr26) hPI honr27 (by decide)
          have hBR : BR ir27 := BR.ro (i := ir26) (F := Fr26) hBR honr27 (by decide)
          have ek_32r27 : Int32.toInt (ir27 78 32) = Int32.toInt (ir26 78 32) := congrArg Int32.toInt (honr27.1 78 32 (Or.inr (by decide)))
          have ek_40r27 : Int32.toInt (ir27 78 40) = Int32.toInt (ir26 78 40) := congrArg Int32.toInt (honr27.1 78 40 (Or.inr (by decide)))
          have ek_51r27 : Int32.toInt (ir27 78 51) = Int32.toInt (ir26 78 51) := congrArg Int32.toInt (honr27.1 78 51 (Or.inr (by decide)))
          have ek_19r27 : Int32.toInt (ir27 78 19) = Int32.toInt (ir26 78 19) := congrArg Int32.toInt (honr27.1 78 19 (Or.inr (by decide)))
          have hTKl := hTK.1
          refine lv_iconst (pc := 145) (v := 1) C0.1 C0.2.1 dX10_opens_145 (by decide) ?_
          exact xzret (pc := 146) C0 hr hH hS dX10_opens_146 (by decide) ⟨(RO.tr (RO.tr RO.rf honr26 (by decide) (by decide)) honr27 (by decide) (by decide)), hT, hP, hPI, (by decide), (show Int32.toInt (ir27 78 32) ≤ _ ∧ Int32.toInt (ir27 78 40) ≤ _ + Int32.toInt 1 ∧ Int32.toInt (ir27 78 47) ≤ _ + 1 + Int32.toInt 1 from by have : Int32.toInt 0 = 0 := rfl; have : Int32.toInt 1 = 1 := rfl; omega), (show _ ≤ Int32.toInt (ir27 78 32) from by omega)⟩
        · have : Int32.toInt 1 = 1 := rfl
          have c24 := congrArg Int32.toInt c24
          refine lv_iload (pc := 59) C0.1 C0.2.1 dX10_opens_59 (lv_at hl 0 rfl) ?_
          refine lv_if_eq (pc := 61) (tgt := 86) C0.1 C0.2.1 dX10_opens_61 (by decide) (fun c => absurd c (by decide)) (fun _ => ?_)
          refine lv_aload_n (pc := 64) C0.1 C0.2.1 dX10_opens_64 rfl (lv_at hl 2 rfl) ?_
          refine xget (pc := 65) C0 hH 78 25 clX10 ⟨Nat.le_of_ble_eq_true rfl, Nat.le_of_ble_eq_true rfl⟩ ⟨rfl, rfl⟩ (Nat.le_of_ble_eq_true rfl) fl_X10_57 (v := .ref (b + 93)) rfl dX10_opens_65 ?_
          refine lv_iload_n (pc := 68) C0.1 C0.2.1 dX10_opens_68 rfl (lv_at hl 4 rfl) ?_
          refine xzald (pc := 69) (N := 600) C0 hH 93 ⟨Nat.le_of_ble_eq_true rfl, Nat.le_of_ble_eq_true rfl⟩ ⟨rfl, rfl⟩ (vI (by omega) (by omega)) dX10_opens_69 ?_
          refine lv_if_eq (pc := 70) (tgt := 86) C0.1 C0.2.1 dX10_opens_70 (by decide) (fun c28 => ?_) (fun c28 => ?_)
          · have : Int32.toInt 0 = 0 := rfl
            have c28 := congrArg Int32.toInt c28
            refine lv_aload_n (pc := 86) C0.1 C0.2.1 dX10_opens_86 rfl (lv_at hl 2 rfl) ?_
            refine lv_iconst (pc := 87) (v := 3) C0.1 C0.2.1 dX10_opens_87 (by decide) ?_
            refine lv_aload_n (pc := 88) C0.1 C0.2.1 dX10_opens_88 rfl (lv_at hl 2 rfl) ?_
            refine xget (pc := 89) C0 hH 78 21 clX10 ⟨Nat.le_of_ble_eq_true rfl, Nat.le_of_ble_eq_true rfl⟩ ⟨rfl, rfl⟩ (Nat.le_of_ble_eq_true rfl) fl_X10_45 (v := .ref (b + 89)) rfl dX10_opens_89 ?_
            refine lv_iload_n (pc := 92) C0.1 C0.2.1 dX10_opens_92 rfl (lv_at hl 4 rfl) ?_
            refine xiald (pc := 93) (N := 600) C0 hH 89 ⟨Nat.le_of_ble_eq_true rfl, Nat.le_of_ble_eq_true rfl⟩ ⟨rfl, rfl⟩ (vI (by omega) (by omega)) dX10_opens_93 ?_
            refine xcVI (pc := 94) 78 [.int 3, .int (F 89 (Int32.toNatClampNeg y))] (m_fail l D tA b i F G 3 (F 89 (Int32.toNatClampNeg y))) C0 hH hS clX10 rfl ⟨⟨Nat.le_of_ble_eq_true rfl, Nat.le_of_ble_eq_true rfl⟩, rfl, rfl⟩ cw_X10_254 rfl ⟨Nat.le_of_ble_eq_true rfl, Nat.le_of_ble_eq_true rfl⟩ hl.1 rfl (Nat.le_of_ble_eq_true rfl) dX10_opens_94 ⟨Nat.le_of_ble_eq_true rfl, Nat.le_of_ble_eq_true rfl⟩ (fun r29 ir29 Fr29 Gr29 _ locs hp hH hS => ?_)
            obtain ⟨hu, rfl⟩ := hp
            cases hu
            have hH : Hd D tA b 78 52 zz (up2 (up2 i 78 30 3) 78 31 (F 89 (Int32.toNatClampNeg y))) F G _ := hH
            exact xzret (pc := 97) C0 hr hH hS dX10_opens_97 (by decide) ⟨(RO.i (RO.i RO.rf (by decide)) (by decide)), hT, hP, (Or.inr (show 0 ≤ Int32.toInt (F 89 (Int32.toNatClampNeg y)) ∧ Int32.toInt (F 89 (Int32.toNatClampNeg y)) ≤ 600 from by have := hTK.2.1 (Int32.toNatClampNeg y); omega)), (by decide), (show Int32.toInt (i 78 32) ≤ _ ∧ Int32.toInt (i 78 40) ≤ _ + Int32.toInt 0 ∧ Int32.toInt (i 78 47) ≤ _ + 1 + Int32.toInt 0 from by have : Int32.toInt 0 = 0 := rfl; have : Int32.toInt 1 = 1 := rfl; omega), (show _ ≤ Int32.toInt (i 78 32) from by omega)⟩
          · have : Int32.toInt 0 = 0 := rfl
            have c28 : ¬ _ := fun q => c28 (Int32.toInt_inj.mp q)
            refine lv_aload_n (pc := 73) C0.1 C0.2.1 dX10_opens_73 rfl (lv_at hl 2 rfl) ?_
            refine xget (pc := 74) C0 hH 78 24 clX10 ⟨Nat.le_of_ble_eq_true rfl, Nat.le_of_ble_eq_true rfl⟩ ⟨rfl, rfl⟩ (Nat.le_of_ble_eq_true rfl) fl_X10_54 (v := .ref (b + 92)) rfl dX10_opens_74 ?_
            refine lv_iload_n (pc := 77) C0.1 C0.2.1 dX10_opens_77 rfl (lv_at hl 4 rfl) ?_
            refine xiald (pc := 78) (N := 600) C0 hH 92 ⟨Nat.le_of_ble_eq_true rfl, Nat.le_of_ble_eq_true rfl⟩ ⟨rfl, rfl⟩ (vI (by omega) (by omega)) dX10_opens_78 ?_
            refine lv_aload_n (pc := 79) C0.1 C0.2.1 dX10_opens_79 rfl (lv_at hl 2 rfl) ?_
            refine xget (pc := 80) C0 hH 78 52 clX10 ⟨Nat.le_of_ble_eq_true rfl, Nat.le_of_ble_eq_true rfl⟩ ⟨rfl, rfl⟩ (Nat.le_of_ble_eq_true rfl) fl_X10_313 (v := .int (i 78 52)) rfl dX10_opens_80 ?_
            refine lv_icmp_gt (pc := 83) (tgt := 126) C0.1 C0.2.1 dX10_opens_83 (by decide) (fun c30 => ?_) (fun c30 => ?_)
            · have c30 := Int32.lt_iff_toInt_lt.mp c30
              refine lv_aload_n (pc := 126) C0.1 C0.2.1 dX10_opens_126 rfl (lv_at hl 2 rfl) ?_
              refine lv_iload_n (pc := 127) C0.1 C0.2.1 dX10_opens_127 rfl (lv_at hl 3 rfl) ?_
              refine lv_aload_n (pc := 128) C0.1 C0.2.1 dX10_opens_128 rfl (lv_at hl 2 rfl) ?_
              refine xget (pc := 129) C0 hH 78 24 clX10 ⟨Nat.le_of_ble_eq_true rfl, Nat.le_of_ble_eq_true rfl⟩ ⟨rfl, rfl⟩ (Nat.le_of_ble_eq_true rfl) fl_X10_54 (v := .ref (b + 92)) rfl dX10_opens_129 ?_
              refine lv_iload_n (pc := 132) C0.1 C0.2.1 dX10_opens_132 rfl (lv_at hl 4 rfl) ?_
              refine xiald (pc := 133) (N := 600) C0 hH 92 ⟨Nat.le_of_ble_eq_true rfl, Nat.le_of_ble_eq_true rfl⟩ ⟨rfl, rfl⟩ (vI (by omega) (by omega)) dX10_opens_133 ?_
              refine lv_iload_n (pc := 134) C0.1 C0.2.1 dX10_opens_134 rfl (lv_at hl 4 rfl) ?_
              refine lv_iconst (pc := 135) (v := 1) C0.1 C0.2.1 dX10_opens_135 (by decide) ?_
              have : Int32.toInt 1 = 1 := rfl
              refine lv_isub (pc := 136) C0.1 C0.2.1 dX10_opens_136 ?_
              refine lv_topi (fun x31 ex31 => ?_)
              have hx31 : Int32.toInt x31 = Int32.toInt y - Int32.toInt 1 := by rw [ex31]; exact fb_subI (by omega) (by omega)
              refine xcVV (pc := 137) 78 [.int x, .int (F 92 (Int32.toNatClampNeg y)), .int x31] (m_begin l D tA b i F G x (F 92 (Int32.toNatClampNeg y)) x31 k hT hP (by omega) (by omega) (show Int32.toInt (i 78 32) < 1202 from by omega) (show Int32.toInt (i 78 40) < 1202 from by omega) (show Int32.toInt (i 78 47) < 1802 from by omega)) C0 hH hS clX10 rfl ⟨⟨Nat.le_of_ble_eq_true rfl, Nat.le_of_ble_eq_true rfl⟩, rfl, rfl⟩ cw_X10_316 rfl ⟨Nat.le_of_ble_eq_true rfl, Nat.le_of_ble_eq_true rfl⟩ hl.1 rfl (Nat.le_of_ble_eq_true rfl) dX10_opens_137 ⟨Nat.le_of_ble_eq_true rfl, Nat.le_of_ble_eq_true rfl⟩ (fun ir32 Fr32 Gr32 _ locs hp hH hS => ?_)
              obtain ⟨honr32, hT, hP, h32r32, h40r32, h47r32⟩ := hp
              have hT : TMm ir32 Fr32 := hT
              have hP : PMm k ir32 Fr32 := hP
              have h32r32 : (ir32 78 32).toInt = Int32.toInt (i 78 32) + 1 := h32r32
              have h40r32 : (ir32 78 40).toInt = Int32.toInt (i 78 40) + 1 := h40r32
              have h47r32 : (ir32 78 47).toInt ≤ Int32.toInt (i 78 47) + 1 := h47r32
              have hTL := TMm.lin hT
              have hPl := hP.1
              have hTK : TKm ir32 Fr32 := TKm.ro (i := i) (F := F) hTK honr32 (by decide)
              have hPI : PLI ir32 := PLI.ro (i := i) (F := F) hPI honr32 (by decide)
              have hBR : BR ir32 := BR.ro (i := i) (F := F) hBR honr32 (by decide)
              have ek_19r32 : Int32.toInt (ir32 78 19) = Int32.toInt (i 78 19) := congrArg Int32.toInt (honr32.1 78 19 (Or.inr (by decide)))
              have hTKl := hTK.1
              refine lv_aload_n (pc := 140) C0.1 C0.2.1 dX10_opens_140 rfl (lv_at hl 2 rfl) ?_
              refine lv_iload_n (pc := 141) C0.1 C0.2.1 dX10_opens_141 rfl (lv_at hl 4 rfl) ?_
              refine xcVV (pc := 142) 78 [.int y] (m_goOn l D tA b ir32 Fr32 Gr32 y k hT hP (show 1 < Int32.toInt (ir32 78 51) ∨ 0 < k from by omega) (by omega) (show Int32.toInt (ir32 78 47) < 1802 from by omega)) C0 hH hS clX10 rfl ⟨⟨Nat.le_of_ble_eq_true rfl, Nat.le_of_ble_eq_true rfl⟩, rfl, rfl⟩ cw_X10_320 rfl ⟨Nat.le_of_ble_eq_true rfl, Nat.le_of_ble_eq_true rfl⟩ hl.1 rfl (Nat.le_of_ble_eq_true rfl) dX10_opens_142 ⟨Nat.le_of_ble_eq_true rfl, Nat.le_of_ble_eq_true rfl⟩ (fun ir33 Fr33 Gr33 _ locs hp hH hS => ?_)
              obtain ⟨honr33, hT, hptr33⟩ := hp
              have hT : TMm ir33 Fr33 := hT
              have hptr33 : (ir33 78 47).toInt = Int32.toInt (ir32 78 47) + 1 := hptr33
              have hTL := TMm.lin hT
              have hP : PMm k ir33 Fr33 := PMm.ro (i := ir32) (F := Fr32) hP honr33 (by decide) (by decide)
              have hTK : TKm ir33 Fr33 := TKm.ro (i := ir32) (F := Fr32) hTK honr33 (by decide)
              have hPI : PLI ir33 := PLI.ro (i := ir32) (F := Fr32) hPI honr33 (by decide)
              have hBR : BR ir33 := BR.ro (i := ir32) (F := Fr32) hBR honr33 (by decide)
              have ek_32r33 : Int32.toInt (ir33 78 32) = Int32.toInt (ir32 78 32) := congrArg Int32.toInt (honr33.1 78 32 (Or.inr (by decide)))
              have ek_40r33 : Int32.toInt (ir33 78 40) = Int32.toInt (ir32 78 40) := congrArg Int32.toInt (honr33.1 78 40 (Or.inr (by decide)))
              have ek_51r33 : Int32.toInt (ir33 78 51) = Int32.toInt (ir32 78 51) := congrArg Int32.toInt (honr33.1 78 51 (Or.inr (by decide)))
              have ek_19r33 : Int32.toInt (ir33 78 19) = Int32.toInt (ir32 78 19) := congrArg Int32.toInt (honr33.1 78 19 (Or.inr (by decide)))
              have hTKl := hTK.1
              refine lv_iconst (pc := 145) (v := 1) C0.1 C0.2.1 dX10_opens_145 (by decide) ?_
              exact xzret (pc := 146) C0 hr hH hS dX10_opens_146 (by decide) ⟨(RO.tr (RO.tr RO.rf honr32 (by decide) (by decide)) honr33 (by decide) (by decide)), hT, hP, hPI, (by decide), (show Int32.toInt (ir33 78 32) ≤ _ ∧ Int32.toInt (ir33 78 40) ≤ _ + Int32.toInt 1 ∧ Int32.toInt (ir33 78 47) ≤ _ + 1 + Int32.toInt 1 from by have : Int32.toInt 0 = 0 := rfl; have : Int32.toInt 1 = 1 := rfl; omega), (show _ ≤ Int32.toInt (ir33 78 32) from by omega)⟩
            · have c30 : ¬ _ := fun q => c30 (Int32.lt_iff_toInt_lt.mpr q)
              refine lv_aload_n (pc := 86) C0.1 C0.2.1 dX10_opens_86 rfl (lv_at hl 2 rfl) ?_
              refine lv_iconst (pc := 87) (v := 3) C0.1 C0.2.1 dX10_opens_87 (by decide) ?_
              refine lv_aload_n (pc := 88) C0.1 C0.2.1 dX10_opens_88 rfl (lv_at hl 2 rfl) ?_
              refine xget (pc := 89) C0 hH 78 21 clX10 ⟨Nat.le_of_ble_eq_true rfl, Nat.le_of_ble_eq_true rfl⟩ ⟨rfl, rfl⟩ (Nat.le_of_ble_eq_true rfl) fl_X10_45 (v := .ref (b + 89)) rfl dX10_opens_89 ?_
              refine lv_iload_n (pc := 92) C0.1 C0.2.1 dX10_opens_92 rfl (lv_at hl 4 rfl) ?_
              refine xiald (pc := 93) (N := 600) C0 hH 89 ⟨Nat.le_of_ble_eq_true rfl, Nat.le_of_ble_eq_true rfl⟩ ⟨rfl, rfl⟩ (vI (by omega) (by omega)) dX10_opens_93 ?_
              refine xcVI (pc := 94) 78 [.int 3, .int (F 89 (Int32.toNatClampNeg y))] (m_fail l D tA b i F G 3 (F 89 (Int32.toNatClampNeg y))) C0 hH hS clX10 rfl ⟨⟨Nat.le_of_ble_eq_true rfl, Nat.le_of_ble_eq_true rfl⟩, rfl, rfl⟩ cw_X10_254 rfl ⟨Nat.le_of_ble_eq_true rfl, Nat.le_of_ble_eq_true rfl⟩ hl.1 rfl (Nat.le_of_ble_eq_true rfl) dX10_opens_94 ⟨Nat.le_of_ble_eq_true rfl, Nat.le_of_ble_eq_true rfl⟩ (fun r34 ir34 Fr34 Gr34 _ locs hp hH hS => ?_)
              obtain ⟨hu, rfl⟩ := hp
              cases hu
              have hH : Hd D tA b 78 52 zz (up2 (up2 i 78 30 3) 78 31 (F 89 (Int32.toNatClampNeg y))) F G _ := hH
              exact xzret (pc := 97) C0 hr hH hS dX10_opens_97 (by decide) ⟨(RO.i (RO.i RO.rf (by decide)) (by decide)), hT, hP, (Or.inr (show 0 ≤ Int32.toInt (F 89 (Int32.toNatClampNeg y)) ∧ Int32.toInt (F 89 (Int32.toNatClampNeg y)) ≤ 600 from by have := hTK.2.1 (Int32.toNatClampNeg y); omega)), (by decide), (show Int32.toInt (i 78 32) ≤ _ ∧ Int32.toInt (i 78 40) ≤ _ + Int32.toInt 0 ∧ Int32.toInt (i 78 47) ≤ _ + 1 + Int32.toInt 0 from by have : Int32.toInt 0 = 0 := rfl; have : Int32.toInt 1 = 1 := rfl; omega), (show _ ≤ Int32.toInt (i 78 32) from by omega)⟩
    · have : Int32.toInt (-9) = (-9) := rfl
      have c16 : ¬ _ := fun q => c16 (Int32.toInt_inj.mp q)
      refine lv_iconst (pc := 19) (v := 1) C0.1 C0.2.1 dX10_opens_19 (by decide) ?_
      refine lv_goto (pc := 20) (tgt := 24) C0.1 C0.2.1 dX10_opens_20 (by decide) ?_
      refine lv_istore_n (pc := 24) (lv' := [(3, .int 1), (0, .ref (b + 78)), (1, .int x), (2, .int y)]) C0.1 C0.2.1 dX10_opens_24 rfl hl (by decide) rfl (fun ls hl => ?_)
      refine lv_aload_n (pc := 25) C0.1 C0.2.1 dX10_opens_25 rfl (lv_at hl 1 rfl) ?_
      refine xget (pc := 26) C0 hH 78 24 clX10 ⟨Nat.le_of_ble_eq_true rfl, Nat.le_of_ble_eq_true rfl⟩ ⟨rfl, rfl⟩ (Nat.le_of_ble_eq_true rfl) fl_X10_54 (v := .ref (b + 92)) rfl dX10_opens_26 ?_
      refine lv_iload_n (pc := 29) C0.1 C0.2.1 dX10_opens_29 rfl (lv_at hl 3 rfl) ?_
      refine xiald (pc := 30) (N := 600) C0 hH 92 ⟨Nat.le_of_ble_eq_true rfl, Nat.le_of_ble_eq_true rfl⟩ ⟨rfl, rfl⟩ (vI (by omega) (by omega)) dX10_opens_30 ?_
      refine lv_aload_n (pc := 31) C0.1 C0.2.1 dX10_opens_31 rfl (lv_at hl 1 rfl) ?_
      refine xget (pc := 32) C0 hH 78 34 clX10 ⟨Nat.le_of_ble_eq_true rfl, Nat.le_of_ble_eq_true rfl⟩ ⟨rfl, rfl⟩ (Nat.le_of_ble_eq_true rfl) fl_X10_76 (v := .ref (b + 99)) rfl dX10_opens_32 ?_
      refine lv_aload_n (pc := 35) C0.1 C0.2.1 dX10_opens_35 rfl (lv_at hl 1 rfl) ?_
      refine xcVI (pc := 36) 78 [] (m_topmost l D tA b i F G k hT hP) C0 hH hS clX10 rfl ⟨⟨Nat.le_of_ble_eq_true rfl, Nat.le_of_ble_eq_true rfl⟩, rfl, rfl⟩ cw_X10_296 rfl ⟨Nat.le_of_ble_eq_true rfl, Nat.le_of_ble_eq_true rfl⟩ hl.1 rfl (Nat.le_of_ble_eq_true rfl) dX10_opens_36 ⟨Nat.le_of_ble_eq_true rfl, Nat.le_of_ble_eq_true rfl⟩ (fun r35 ir35 Fr35 Gr35 _ locs hp hH hS => ?_)
      obtain ⟨hu, htpr35, htqr35, htzr35⟩ := hp
      cases hu
      have hBtr35 := TMm.bt hT (x := r35) (show 0 ≤ Int32.toInt r35 ∧ Int32.toInt r35 < Int32.toInt (i 78 32) from htpr35)
      refine xiald (pc := 39) (N := 1202) C0 hH 99 ⟨Nat.le_of_ble_eq_true rfl, Nat.le_of_ble_eq_true rfl⟩ ⟨rfl, rfl⟩ (vI (by omega) (by omega)) dX10_opens_39 ?_
      refine lv_icmp_le (pc := 40) (tgt := 51) C0.1 C0.2.1 dX10_opens_40 (by decide) (fun c36 => ?_) (fun c36 => ?_)
      · have c36 := Int32.le_iff_toInt_le.mp c36
        refine lv_iconst (pc := 51) (v := 0) C0.1 C0.2.1 dX10_opens_51 (by decide) ?_
        refine lv_istore (pc := 52) (lv' := [(4, .int 0), (3, .int 1), (0, .ref (b + 78)), (1, .int x), (2, .int y)]) C0.1 C0.2.1 dX10_opens_52 hl (by decide) rfl (fun ls hl => ?_)
        refine lv_iload_n (pc := 54) C0.1 C0.2.1 dX10_opens_54 rfl (lv_at hl 3 rfl) ?_
        refine lv_iconst (pc := 55) (v := 1) C0.1 C0.2.1 dX10_opens_55 (by decide) ?_
        refine lv_icmp_ne (pc := 56) (tgt := 98) C0.1 C0.2.1 dX10_opens_56 (by decide) (fun c37 => ?_) (fun c37 => ?_)
        · have : Int32.toInt 1 = 1 := rfl
          have c37 : ¬ _ := fun q => c37 (Int32.toInt_inj.mp q)
          refine lv_iload (pc := 98) C0.1 C0.2.1 dX10_opens_98 (lv_at hl 0 rfl) ?_
          refine lv_if_ne (pc := 100) (tgt := 126) C0.1 C0.2.1 dX10_opens_100 (by decide) (fun c => absurd (by decide) c) (fun _ => ?_)
          refine lv_aload_n (pc := 103) C0.1 C0.2.1 dX10_opens_103 rfl (lv_at hl 2 rfl) ?_
          refine lv_iload_n (pc := 104) C0.1 C0.2.1 dX10_opens_104 rfl (lv_at hl 3 rfl) ?_
          refine lv_bipush (pc := 105) (v := (-9)) C0.1 C0.2.1 dX10_opens_105 (by decide) ?_
          refine lv_aload_n (pc := 107) C0.1 C0.2.1 dX10_opens_107 rfl (lv_at hl 2 rfl) ?_
          refine xget (pc := 108) C0 hH 78 39 clX10 ⟨Nat.le_of_ble_eq_true rfl, Nat.le_of_ble_eq_true rfl⟩ ⟨rfl, rfl⟩ (Nat.le_of_ble_eq_true rfl) fl_X10_91 (v := .ref (b + 104)) rfl dX10_opens_108 ?_
          refine lv_aload_n (pc := 111) C0.1 C0.2.1 dX10_opens_111 rfl (lv_at hl 2 rfl) ?_
          refine xcVI (pc := 112) 78 [] (m_topmost l D tA b i F G k hT hP) C0 hH hS clX10 rfl ⟨⟨Nat.le_of_ble_eq_true rfl, Nat.le_of_ble_eq_true rfl⟩, rfl, rfl⟩ cw_X10_296 rfl ⟨Nat.le_of_ble_eq_true rfl, Nat.le_of_ble_eq_true rfl⟩ hl.1 rfl (Nat.le_of_ble_eq_true rfl) dX10_opens_112 ⟨Nat.le_of_ble_eq_true rfl, Nat.le_of_ble_eq_true rfl⟩ (fun r38 ir38 Fr38 Gr38 _ locs hp hH hS => ?_)
          obtain ⟨hu, htpr38, htqr38, htzr38⟩ := hp
          cases hu
          have hBtr38 := TMm.bt hT (x := r38) (show 0 ≤ Int32.toInt r38 ∧ Int32.toInt r38 < Int32.toInt (i 78 32) from htpr38)
          refine xiald (pc := 115) (N := 1202) C0 hH 104 ⟨Nat.le_of_ble_eq_true rfl, Nat.le_of_ble_eq_true rfl⟩ ⟨rfl, rfl⟩ (vI (by omega) (by omega)) dX10_opens_115 ?_
          have hv9 := htqr38 (Or.inr hk0)
          refine lv_iload_n (pc := 116) C0.1 C0.2.1 dX10_opens_116 rfl (lv_at hl 4 rfl) ?_
          refine lv_iconst (pc := 117) (v := 1) C0.1 C0.2.1 dX10_opens_117 (by decide) ?_
          have : Int32.toInt 1 = 1 := rfl
          refine lv_isub (pc := 118) C0.1 C0.2.1 dX10_opens_118 ?_
          refine lv_topi (fun x39 ex39 => ?_)
          have hx39 : Int32.toInt x39 = Int32.toInt y - Int32.toInt 1 := by rw [ex39]; exact fb_subI (by omega) (by omega)
          refine xcVI (pc := 119) 78 [.int x, .int (-9), .int (F 104 (Int32.toNatClampNeg r38)), .int x39] (m_newBlock l D tA b i F G x (-9) (F 104 (Int32.toNatClampNeg r38)) x39 hT (show Int32.toInt (i 78 32) < 1202 from by omega) (show Int32.toInt (i 78 47) < 1802 from by omega) (show (Int32.toInt (i 78 32) = 0 ∧ Int32.toInt (F 104 (Int32.toNatClampNeg r38)) = -9) ∨ (1 ≤ Int32.toInt (i 78 32) ∧ (0 ≤ Int32.toInt (F 104 (Int32.toNatClampNeg r38)) ∧ Int32.toInt (F 104 (Int32.toNatClampNeg r38)) < Int32.toInt (i 78 40)) ∧ 0 ≤ Int32.toInt x39 ∧ Int32.toInt x39 < 600) from by omega)) C0 hH hS clX10 rfl ⟨⟨Nat.le_of_ble_eq_true rfl, Nat.le_of_ble_eq_true rfl⟩, rfl, rfl⟩ cw_X10_299 rfl ⟨Nat.le_of_ble_eq_true rfl, Nat.le_of_ble_eq_true rfl⟩ hl.1 rfl (Nat.le_of_ble_eq_true rfl) dX10_opens_119 ⟨Nat.le_of_ble_eq_true rfl, Nat.le_of_ble_eq_true rfl⟩ (fun r40 ir40 Fr40 Gr40 _ locs hp hH hS => ?_)
          obtain ⟨honr40, hT, h32r40, h47r40, hrbr40, e98r40, e99r40, e102r40⟩ := hp
          have hT : TMm ir40 Fr40 := hT
          have h32r40 : (ir40 78 32).toInt = Int32.toInt (i 78 32) + 1 := h32r40
          have h47r40 : Int32.toInt (i 78 47) ≤ (ir40 78 47).toInt ∧ (ir40 78 47).toInt ≤ Int32.toInt (i 78 47) + 1 := h47r40
          have hrIr40 : Int32.toInt r40 = Int32.toInt (i 78 32) := congrArg Int32.toInt hrbr40
          have hTL := TMm.lin hT
          have hTK : TKm ir40 Fr40 := TKm.ro (i := i) (F := F) hTK honr40 (by decide)
          have hPI : PLI ir40 := PLI.ro (i := i) (F := F) hPI honr40 (by decide)
          have hP : PMm k ir40 Fr40 := PMm.nb (i := i) (F := F) hP (by omega) h32r40 e98r40 e99r40 e102r40 (honr40.2 113 (by decide)).1 (honr40.1 78 51 (Or.inr (by decide)))
          have hBR : BR ir40 := BR.ro (i := i) (F := F) hBR honr40 (by decide)
          have ek_40r40 : Int32.toInt (ir40 78 40) = Int32.toInt (i 78 40) := congrArg Int32.toInt (honr40.1 78 40 (Or.inr (by decide)))
          have ek_51r40 : Int32.toInt (ir40 78 51) = Int32.toInt (i 78 51) := congrArg Int32.toInt (honr40.1 78 51 (Or.inr (by decide)))
          have ek_19r40 : Int32.toInt (ir40 78 19) = Int32.toInt (i 78 19) := congrArg Int32.toInt (honr40.1 78 19 (Or.inr (by decide)))
          have hTKl := hTK.1
          refine lv_istore (pc := 122) (lv' := [(5, .int r40), (4, .int 0), (3, .int 1), (0, .ref (b + 78)), (1, .int x), (2, .int y)]) C0.1 C0.2.1 dX10_opens_122 hl (by decide) rfl (fun ls hl => ?_)
          refine lv_iconst (pc := 124) (v := 0) C0.1 C0.2.1 dX10_opens_124 (by decide) ?_
          exact xzret (pc := 125) C0 hr hH hS dX10_opens_125 (by decide) ⟨(RO.tr RO.rf honr40 (by decide) (by decide)), hT, hP, hPI, (by decide), (show Int32.toInt (ir40 78 32) ≤ _ ∧ Int32.toInt (ir40 78 40) ≤ _ + Int32.toInt 0 ∧ Int32.toInt (ir40 78 47) ≤ _ + 1 + Int32.toInt 0 from by have : Int32.toInt 0 = 0 := rfl; have : Int32.toInt 1 = 1 := rfl; omega), (show _ ≤ Int32.toInt (ir40 78 32) from by omega)⟩
        · have : Int32.toInt 1 = 1 := rfl
          have c37 := congrArg Int32.toInt c37
          refine lv_iload (pc := 59) C0.1 C0.2.1 dX10_opens_59 (lv_at hl 0 rfl) ?_
          refine lv_if_eq (pc := 61) (tgt := 86) C0.1 C0.2.1 dX10_opens_61 (by decide) (fun _ => ?_) (fun c => absurd (by decide) c)
          refine lv_aload_n (pc := 86) C0.1 C0.2.1 dX10_opens_86 rfl (lv_at hl 2 rfl) ?_
          refine lv_iconst (pc := 87) (v := 3) C0.1 C0.2.1 dX10_opens_87 (by decide) ?_
          refine lv_aload_n (pc := 88) C0.1 C0.2.1 dX10_opens_88 rfl (lv_at hl 2 rfl) ?_
          refine xget (pc := 89) C0 hH 78 21 clX10 ⟨Nat.le_of_ble_eq_true rfl, Nat.le_of_ble_eq_true rfl⟩ ⟨rfl, rfl⟩ (Nat.le_of_ble_eq_true rfl) fl_X10_45 (v := .ref (b + 89)) rfl dX10_opens_89 ?_
          refine lv_iload_n (pc := 92) C0.1 C0.2.1 dX10_opens_92 rfl (lv_at hl 4 rfl) ?_
          refine xiald (pc := 93) (N := 600) C0 hH 89 ⟨Nat.le_of_ble_eq_true rfl, Nat.le_of_ble_eq_true rfl⟩ ⟨rfl, rfl⟩ (vI (by omega) (by omega)) dX10_opens_93 ?_
          refine xcVI (pc := 94) 78 [.int 3, .int (F 89 (Int32.toNatClampNeg y))] (m_fail l D tA b i F G 3 (F 89 (Int32.toNatClampNeg y))) C0 hH hS clX10 rfl ⟨⟨Nat.le_of_ble_eq_true rfl, Nat.le_of_ble_eq_true rfl⟩, rfl, rfl⟩ cw_X10_254 rfl ⟨Nat.le_of_ble_eq_true rfl, Nat.le_of_ble_eq_true rfl⟩ hl.1 rfl (Nat.le_of_ble_eq_true rfl) dX10_opens_94 ⟨Nat.le_of_ble_eq_true rfl, Nat.le_of_ble_eq_true rfl⟩ (fun r41 ir41 Fr41 Gr41 _ locs hp hH hS => ?_)
          obtain ⟨hu, rfl⟩ := hp
          cases hu
          have hH : Hd D tA b 78 52 zz (up2 (up2 i 78 30 3) 78 31 (F 89 (Int32.toNatClampNeg y))) F G _ := hH
          exact xzret (pc := 97) C0 hr hH hS dX10_opens_97 (by decide) ⟨(RO.i (RO.i RO.rf (by decide)) (by decide)), hT, hP, (Or.inr (show 0 ≤ Int32.toInt (F 89 (Int32.toNatClampNeg y)) ∧ Int32.toInt (F 89 (Int32.toNatClampNeg y)) ≤ 600 from by have := hTK.2.1 (Int32.toNatClampNeg y); omega)), (by decide), (show Int32.toInt (i 78 32) ≤ _ ∧ Int32.toInt (i 78 40) ≤ _ + Int32.toInt 0 ∧ Int32.toInt (i 78 47) ≤ _ + 1 + Int32.toInt 0 from by have : Int32.toInt 0 = 0 := rfl; have : Int32.toInt 1 = 1 := rfl; omega), (show _ ≤ Int32.toInt (i 78 32) from by omega)⟩
      · have c36 : ¬ _ := fun q => c36 (Int32.le_iff_toInt_le.mpr q)
        refine lv_iload_n (pc := 43) C0.1 C0.2.1 dX10_opens_43 rfl (lv_at hl 0 rfl) ?_
        refine lv_if_ne (pc := 44) (tgt := 51) C0.1 C0.2.1 dX10_opens_44 (by decide) (fun _ => ?_) (fun c => absurd c (by decide))
        refine lv_iconst (pc := 51) (v := 0) C0.1 C0.2.1 dX10_opens_51 (by decide) ?_
        refine lv_istore (pc := 52) (lv' := [(4, .int 0), (3, .int 1), (0, .ref (b + 78)), (1, .int x), (2, .int y)]) C0.1 C0.2.1 dX10_opens_52 hl (by decide) rfl (fun ls hl => ?_)
        refine lv_iload_n (pc := 54) C0.1 C0.2.1 dX10_opens_54 rfl (lv_at hl 3 rfl) ?_
        refine lv_iconst (pc := 55) (v := 1) C0.1 C0.2.1 dX10_opens_55 (by decide) ?_
        refine lv_icmp_ne (pc := 56) (tgt := 98) C0.1 C0.2.1 dX10_opens_56 (by decide) (fun c42 => ?_) (fun c42 => ?_)
        · have : Int32.toInt 1 = 1 := rfl
          have c42 : ¬ _ := fun q => c42 (Int32.toInt_inj.mp q)
          refine lv_iload (pc := 98) C0.1 C0.2.1 dX10_opens_98 (lv_at hl 0 rfl) ?_
          refine lv_if_ne (pc := 100) (tgt := 126) C0.1 C0.2.1 dX10_opens_100 (by decide) (fun c => absurd (by decide) c) (fun _ => ?_)
          refine lv_aload_n (pc := 103) C0.1 C0.2.1 dX10_opens_103 rfl (lv_at hl 2 rfl) ?_
          refine lv_iload_n (pc := 104) C0.1 C0.2.1 dX10_opens_104 rfl (lv_at hl 3 rfl) ?_
          refine lv_bipush (pc := 105) (v := (-9)) C0.1 C0.2.1 dX10_opens_105 (by decide) ?_
          refine lv_aload_n (pc := 107) C0.1 C0.2.1 dX10_opens_107 rfl (lv_at hl 2 rfl) ?_
          refine xget (pc := 108) C0 hH 78 39 clX10 ⟨Nat.le_of_ble_eq_true rfl, Nat.le_of_ble_eq_true rfl⟩ ⟨rfl, rfl⟩ (Nat.le_of_ble_eq_true rfl) fl_X10_91 (v := .ref (b + 104)) rfl dX10_opens_108 ?_
          refine lv_aload_n (pc := 111) C0.1 C0.2.1 dX10_opens_111 rfl (lv_at hl 2 rfl) ?_
          refine xcVI (pc := 112) 78 [] (m_topmost l D tA b i F G k hT hP) C0 hH hS clX10 rfl ⟨⟨Nat.le_of_ble_eq_true rfl, Nat.le_of_ble_eq_true rfl⟩, rfl, rfl⟩ cw_X10_296 rfl ⟨Nat.le_of_ble_eq_true rfl, Nat.le_of_ble_eq_true rfl⟩ hl.1 rfl (Nat.le_of_ble_eq_true rfl) dX10_opens_112 ⟨Nat.le_of_ble_eq_true rfl, Nat.le_of_ble_eq_true rfl⟩ (fun r43 ir43 Fr43 Gr43 _ locs hp hH hS => ?_)
          obtain ⟨hu, htpr43, htqr43, htzr43⟩ := hp
          cases hu
          have hBtr43 := TMm.bt hT (x := r43) (show 0 ≤ Int32.toInt r43 ∧ Int32.toInt r43 < Int32.toInt (i 78 32) from htpr43)
          refine xiald (pc := 115) (N := 1202) C0 hH 104 ⟨Nat.le_of_ble_eq_true rfl, Nat.le_of_ble_eq_true rfl⟩ ⟨rfl, rfl⟩ (vI (by omega) (by omega)) dX10_opens_115 ?_
          have hv9 := htqr43 (Or.inr hk0)
          refine lv_iload_n (pc := 116) C0.1 C0.2.1 dX10_opens_116 rfl (lv_at hl 4 rfl) ?_
          refine lv_iconst (pc := 117) (v := 1) C0.1 C0.2.1 dX10_opens_117 (by decide) ?_
          have : Int32.toInt 1 = 1 := rfl
          refine lv_isub (pc := 118) C0.1 C0.2.1 dX10_opens_118 ?_
          refine lv_topi (fun x44 ex44 => ?_)
          have hx44 : Int32.toInt x44 = Int32.toInt y - Int32.toInt 1 := by rw [ex44]; exact fb_subI (by omega) (by omega)
          refine xcVI (pc := 119) 78 [.int x, .int (-9), .int (F 104 (Int32.toNatClampNeg r43)), .int x44] (m_newBlock l D tA b i F G x (-9) (F 104 (Int32.toNatClampNeg r43)) x44 hT (show Int32.toInt (i 78 32) < 1202 from by omega) (show Int32.toInt (i 78 47) < 1802 from by omega) (show (Int32.toInt (i 78 32) = 0 ∧ Int32.toInt (F 104 (Int32.toNatClampNeg r43)) = -9) ∨ (1 ≤ Int32.toInt (i 78 32) ∧ (0 ≤ Int32.toInt (F 104 (Int32.toNatClampNeg r43)) ∧ Int32.toInt (F 104 (Int32.toNatClampNeg r43)) < Int32.toInt (i 78 40)) ∧ 0 ≤ Int32.toInt x44 ∧ Int32.toInt x44 < 600) from by omega)) C0 hH hS clX10 rfl ⟨⟨Nat.le_of_ble_eq_true rfl, Nat.le_of_ble_eq_true rfl⟩, rfl, rfl⟩ cw_X10_299 rfl ⟨Nat.le_of_ble_eq_true rfl, Nat.le_of_ble_eq_true rfl⟩ hl.1 rfl (Nat.le_of_ble_eq_true rfl) dX10_opens_119 ⟨Nat.le_of_ble_eq_true rfl, Nat.le_of_ble_eq_true rfl⟩ (fun r45 ir45 Fr45 Gr45 _ locs hp hH hS => ?_)
          obtain ⟨honr45, hT, h32r45, h47r45, hrbr45, e98r45, e99r45, e102r45⟩ := hp
          have hT : TMm ir45 Fr45 := hT
          have h32r45 : (ir45 78 32).toInt = Int32.toInt (i 78 32) + 1 := h32r45
          have h47r45 : Int32.toInt (i 78 47) ≤ (ir45 78 47).toInt ∧ (ir45 78 47).toInt ≤ Int32.toInt (i 78 47) + 1 := h47r45
          have hrIr45 : Int32.toInt r45 = Int32.toInt (i 78 32) := congrArg Int32.toInt hrbr45
          have hTL := TMm.lin hT
          have hTK : TKm ir45 Fr45 := TKm.ro (i := i) (F := F) hTK honr45 (by decide)
          have hPI : PLI ir45 := PLI.ro (i := i) (F := F) hPI honr45 (by decide)
          have hP : PMm k ir45 Fr45 := PMm.nb (i := i) (F := F) hP (by omega) h32r45 e98r45 e99r45 e102r45 (honr45.2 113 (by decide)).1 (honr45.1 78 51 (Or.inr (by decide)))
          have hBR : BR ir45 := BR.ro (i := i) (F := F) hBR honr45 (by decide)
          have ek_40r45 : Int32.toInt (ir45 78 40) = Int32.toInt (i 78 40) := congrArg Int32.toInt (honr45.1 78 40 (Or.inr (by decide)))
          have ek_51r45 : Int32.toInt (ir45 78 51) = Int32.toInt (i 78 51) := congrArg Int32.toInt (honr45.1 78 51 (Or.inr (by decide)))
          have ek_19r45 : Int32.toInt (ir45 78 19) = Int32.toInt (i 78 19) := congrArg Int32.toInt (honr45.1 78 19 (Or.inr (by decide)))
          have hTKl := hTK.1
          refine lv_istore (pc := 122) (lv' := [(5, .int r45), (4, .int 0), (3, .int 1), (0, .ref (b + 78)), (1, .int x), (2, .int y)]) C0.1 C0.2.1 dX10_opens_122 hl (by decide) rfl (fun ls hl => ?_)
          refine lv_iconst (pc := 124) (v := 0) C0.1 C0.2.1 dX10_opens_124 (by decide) ?_
          exact xzret (pc := 125) C0 hr hH hS dX10_opens_125 (by decide) ⟨(RO.tr RO.rf honr45 (by decide) (by decide)), hT, hP, hPI, (by decide), (show Int32.toInt (ir45 78 32) ≤ _ ∧ Int32.toInt (ir45 78 40) ≤ _ + Int32.toInt 0 ∧ Int32.toInt (ir45 78 47) ≤ _ + 1 + Int32.toInt 0 from by have : Int32.toInt 0 = 0 := rfl; have : Int32.toInt 1 = 1 := rfl; omega), (show _ ≤ Int32.toInt (ir45 78 32) from by omega)⟩
        · have : Int32.toInt 1 = 1 := rfl
          have c42 := congrArg Int32.toInt c42
          refine lv_iload (pc := 59) C0.1 C0.2.1 dX10_opens_59 (lv_at hl 0 rfl) ?_
          refine lv_if_eq (pc := 61) (tgt := 86) C0.1 C0.2.1 dX10_opens_61 (by decide) (fun _ => ?_) (fun c => absurd (by decide) c)
          refine lv_aload_n (pc := 86) C0.1 C0.2.1 dX10_opens_86 rfl (lv_at hl 2 rfl) ?_
          refine lv_iconst (pc := 87) (v := 3) C0.1 C0.2.1 dX10_opens_87 (by decide) ?_
          refine lv_aload_n (pc := 88) C0.1 C0.2.1 dX10_opens_88 rfl (lv_at hl 2 rfl) ?_
          refine xget (pc := 89) C0 hH 78 21 clX10 ⟨Nat.le_of_ble_eq_true rfl, Nat.le_of_ble_eq_true rfl⟩ ⟨rfl, rfl⟩ (Nat.le_of_ble_eq_true rfl) fl_X10_45 (v := .ref (b + 89)) rfl dX10_opens_89 ?_
          refine lv_iload_n (pc := 92) C0.1 C0.2.1 dX10_opens_92 rfl (lv_at hl 4 rfl) ?_
          refine xiald (pc := 93) (N := 600) C0 hH 89 ⟨Nat.le_of_ble_eq_true rfl, Nat.le_of_ble_eq_true rfl⟩ ⟨rfl, rfl⟩ (vI (by omega) (by omega)) dX10_opens_93 ?_
          refine xcVI (pc := 94) 78 [.int 3, .int (F 89 (Int32.toNatClampNeg y))] (m_fail l D tA b i F G 3 (F 89 (Int32.toNatClampNeg y))) C0 hH hS clX10 rfl ⟨⟨Nat.le_of_ble_eq_true rfl, Nat.le_of_ble_eq_true rfl⟩, rfl, rfl⟩ cw_X10_254 rfl ⟨Nat.le_of_ble_eq_true rfl, Nat.le_of_ble_eq_true rfl⟩ hl.1 rfl (Nat.le_of_ble_eq_true rfl) dX10_opens_94 ⟨Nat.le_of_ble_eq_true rfl, Nat.le_of_ble_eq_true rfl⟩ (fun r46 ir46 Fr46 Gr46 _ locs hp hH hS => ?_)
          obtain ⟨hu, rfl⟩ := hp
          cases hu
          have hH : Hd D tA b 78 52 zz (up2 (up2 i 78 30 3) 78 31 (F 89 (Int32.toNatClampNeg y))) F G _ := hH
          exact xzret (pc := 97) C0 hr hH hS dX10_opens_97 (by decide) ⟨(RO.i (RO.i RO.rf (by decide)) (by decide)), hT, hP, (Or.inr (show 0 ≤ Int32.toInt (F 89 (Int32.toNatClampNeg y)) ∧ Int32.toInt (F 89 (Int32.toNatClampNeg y)) ≤ 600 from by have := hTK.2.1 (Int32.toNatClampNeg y); omega)), (by decide), (show Int32.toInt (i 78 32) ≤ _ ∧ Int32.toInt (i 78 40) ≤ _ + Int32.toInt 0 ∧ Int32.toInt (i 78 47) ≤ _ + 1 + Int32.toInt 0 from by have : Int32.toInt 0 = 0 := rfl; have : Int32.toInt 1 = 1 := rfl; omega), (show _ ≤ Int32.toInt (i 78 32) from by omega)⟩
