set_option maxRecDepth 20000 in
theorem cw_X10_352 : CwV RX10 352 yX10_isAround cX10_isAround 4 (some .boolean) 2 := ⟨wm 1465 (by decide +kernel) rfl, wm 1467 (by decide +kernel) rfl, wms 65 (by decide +kernel) rfl, wm 11 (by decide +kernel) rfl, wm 1468 rfl rfl, by decide +kernel⟩
set_option maxRecDepth 20000 in
theorem cw_X10_355 : CwV RX10 355 yX10_isInItem cX10_isInItem 4 (some .boolean) 2 := ⟨wm 1481 (by decide +kernel) rfl, wm 1483 (by decide +kernel) rfl, wms 68 (by decide +kernel) rfl, wm 11 (by decide +kernel) rfl, wm 1484 rfl rfl, by decide +kernel⟩
theorem dX10_depth_4 : decode cX10_depth 4 = .ok (.aload_n 0, 1) := by decide +kernel
theorem dX10_depth_5 : decode cX10_depth 5 = .ok (.getfield 79, 3) := by decide +kernel
theorem dX10_depth_8 : decode cX10_depth 8 = .ok (.iload_n 3, 1) := by decide +kernel
theorem dX10_depth_9 : decode cX10_depth 9 = .ok (.iaload, 1) := by decide +kernel
theorem dX10_depth_10 : decode cX10_depth 10 = .ok (.bipush (-9), 2) := by decide +kernel
theorem dX10_depth_12 : decode cX10_depth 12 = .ok (.if_icmp .eq 21, 3) := by decide +kernel
theorem dX10_depth_33 : decode cX10_depth 33 = .ok (.iload_n 2, 1) := by decide +kernel
theorem dX10_depth_34 : decode cX10_depth 34 = .ok (.ireturn, 1) := by decide +kernel
theorem dX10_depth_15 : decode cX10_depth 15 = .ok (.aload_n 0, 1) := by decide +kernel
theorem dX10_depth_16 : decode cX10_depth 16 = .ok (.getfield 94, 3) := by decide +kernel
theorem dX10_depth_19 : decode cX10_depth 19 = .ok (.aload_n 0, 1) := by decide +kernel
theorem dX10_depth_20 : decode cX10_depth 20 = .ok (.getfield 79, 3) := by decide +kernel
theorem dX10_depth_23 : decode cX10_depth 23 = .ok (.iload_n 3, 1) := by decide +kernel
theorem dX10_depth_24 : decode cX10_depth 24 = .ok (.iaload, 1) := by decide +kernel
theorem dX10_depth_25 : decode cX10_depth 25 = .ok (.iaload, 1) := by decide +kernel
theorem dX10_depth_26 : decode cX10_depth 26 = .ok (.istore_n 3, 1) := by decide +kernel
theorem dX10_depth_27 : decode cX10_depth 27 = .ok (.iinc 2 1, 3) := by decide +kernel
theorem dX10_depth_30 : decode cX10_depth 30 = .ok (.goto (-26), 3) := by decide +kernel
theorem dX10_depth_0 : decode cX10_depth 0 = .ok (.iconst 0, 1) := by decide +kernel
theorem dX10_depth_1 : decode cX10_depth 1 = .ok (.istore_n 2, 1) := by decide +kernel
theorem dX10_depth_2 : decode cX10_depth 2 = .ok (.iload_n 1, 1) := by decide +kernel
theorem dX10_depth_3 : decode cX10_depth 3 = .ok (.istore_n 3, 1) := by decide +kernel
theorem dX10_isAround_12 : decode cX10_isAround 12 = .ok (.iload_n 3, 1) := by decide +kernel
theorem dX10_isAround_13 : decode cX10_isAround 13 = .ok (.iload_n 1, 1) := by decide +kernel
theorem dX10_isAround_14 : decode cX10_isAround 14 = .ok (.if_icmp .eq 29, 3) := by decide +kernel
theorem dX10_isAround_43 : decode cX10_isAround 43 = .ok (.iload_n 3, 1) := by decide +kernel
theorem dX10_isAround_44 : decode cX10_isAround 44 = .ok (.iload_n 1, 1) := by decide +kernel
theorem dX10_isAround_45 : decode cX10_isAround 45 = .ok (.if_icmp .ne 7, 3) := by decide +kernel
theorem dX10_isAround_52 : decode cX10_isAround 52 = .ok (.iconst 0, 1) := by decide +kernel
theorem dX10_isAround_53 : decode cX10_isAround 53 = .ok (.ireturn, 1) := by decide +kernel
theorem dX10_isAround_48 : decode cX10_isAround 48 = .ok (.iconst 1, 1) := by decide +kernel
theorem dX10_isAround_49 : decode cX10_isAround 49 = .ok (.goto 4, 3) := by decide +kernel
theorem dX10_isAround_17 : decode cX10_isAround 17 = .ok (.aload_n 0, 1) := by decide +kernel
theorem dX10_isAround_18 : decode cX10_isAround 18 = .ok (.getfield 79, 3) := by decide +kernel
theorem dX10_isAround_21 : decode cX10_isAround 21 = .ok (.iload_n 3, 1) := by decide +kernel
theorem dX10_isAround_22 : decode cX10_isAround 22 = .ok (.iaload, 1) := by decide +kernel
theorem dX10_isAround_23 : decode cX10_isAround 23 = .ok (.bipush (-9), 2) := by decide +kernel
theorem dX10_isAround_25 : decode cX10_isAround 25 = .ok (.if_icmp .eq 18, 3) := by decide +kernel
theorem dX10_isAround_28 : decode cX10_isAround 28 = .ok (.aload_n 0, 1) := by decide +kernel
theorem dX10_isAround_29 : decode cX10_isAround 29 = .ok (.getfield 94, 3) := by decide +kernel
theorem dX10_isAround_32 : decode cX10_isAround 32 = .ok (.aload_n 0, 1) := by decide +kernel
theorem dX10_isAround_33 : decode cX10_isAround 33 = .ok (.getfield 79, 3) := by decide +kernel
theorem dX10_isAround_36 : decode cX10_isAround 36 = .ok (.iload_n 3, 1) := by decide +kernel
theorem dX10_isAround_37 : decode cX10_isAround 37 = .ok (.iaload, 1) := by decide +kernel
theorem dX10_isAround_38 : decode cX10_isAround 38 = .ok (.iaload, 1) := by decide +kernel
theorem dX10_isAround_39 : decode cX10_isAround 39 = .ok (.istore_n 3, 1) := by decide +kernel
theorem dX10_isAround_40 : decode cX10_isAround 40 = .ok (.goto (-28), 3) := by decide +kernel
theorem dX10_isAround_0 : decode cX10_isAround 0 = .ok (.aload_n 0, 1) := by decide +kernel
theorem dX10_isAround_1 : decode cX10_isAround 1 = .ok (.getfield 94, 3) := by decide +kernel
theorem dX10_isAround_4 : decode cX10_isAround 4 = .ok (.aload_n 0, 1) := by decide +kernel
theorem dX10_isAround_5 : decode cX10_isAround 5 = .ok (.getfield 64, 3) := by decide +kernel
theorem dX10_isAround_8 : decode cX10_isAround 8 = .ok (.iload_n 2, 1) := by decide +kernel
theorem dX10_isAround_9 : decode cX10_isAround 9 = .ok (.iaload, 1) := by decide +kernel
theorem dX10_isAround_10 : decode cX10_isAround 10 = .ok (.iaload, 1) := by decide +kernel
theorem dX10_isAround_11 : decode cX10_isAround 11 = .ok (.istore_n 3, 1) := by decide +kernel
theorem dX10_isInItem_7 : decode cX10_isInItem 7 = .ok (.iload_n 3, 1) := by decide +kernel
theorem dX10_isInItem_8 : decode cX10_isInItem 8 = .ok (.iload_n 1, 1) := by decide +kernel
theorem dX10_isInItem_9 : decode cX10_isInItem 9 = .ok (.if_icmp .eq 34, 3) := by decide +kernel
theorem dX10_isInItem_43 : decode cX10_isInItem 43 = .ok (.iload_n 3, 1) := by decide +kernel
theorem dX10_isInItem_44 : decode cX10_isInItem 44 = .ok (.iload_n 1, 1) := by decide +kernel
theorem dX10_isInItem_45 : decode cX10_isInItem 45 = .ok (.if_icmp .ne 7, 3) := by decide +kernel
theorem dX10_isInItem_52 : decode cX10_isInItem 52 = .ok (.iconst 0, 1) := by decide +kernel
theorem dX10_isInItem_53 : decode cX10_isInItem 53 = .ok (.ireturn, 1) := by decide +kernel
theorem dX10_isInItem_48 : decode cX10_isInItem 48 = .ok (.iconst 1, 1) := by decide +kernel
theorem dX10_isInItem_49 : decode cX10_isInItem 49 = .ok (.goto 4, 3) := by decide +kernel
theorem dX10_isInItem_12 : decode cX10_isInItem 12 = .ok (.aload_n 0, 1) := by decide +kernel
theorem dX10_isInItem_13 : decode cX10_isInItem 13 = .ok (.getfield 79, 3) := by decide +kernel
theorem dX10_isInItem_16 : decode cX10_isInItem 16 = .ok (.aload_n 0, 1) := by decide +kernel
theorem dX10_isInItem_17 : decode cX10_isInItem 17 = .ok (.getfield 94, 3) := by decide +kernel
theorem dX10_isInItem_20 : decode cX10_isInItem 20 = .ok (.iload_n 3, 1) := by decide +kernel
theorem dX10_isInItem_21 : decode cX10_isInItem 21 = .ok (.iaload, 1) := by decide +kernel
theorem dX10_isInItem_22 : decode cX10_isInItem 22 = .ok (.iaload, 1) := by decide +kernel
theorem dX10_isInItem_23 : decode cX10_isInItem 23 = .ok (.bipush (-9), 2) := by decide +kernel
theorem dX10_isInItem_25 : decode cX10_isInItem 25 = .ok (.if_icmp .eq 18, 3) := by decide +kernel
theorem dX10_isInItem_28 : decode cX10_isInItem 28 = .ok (.aload_n 0, 1) := by decide +kernel
theorem dX10_isInItem_29 : decode cX10_isInItem 29 = .ok (.getfield 79, 3) := by decide +kernel
theorem dX10_isInItem_32 : decode cX10_isInItem 32 = .ok (.aload_n 0, 1) := by decide +kernel
theorem dX10_isInItem_33 : decode cX10_isInItem 33 = .ok (.getfield 94, 3) := by decide +kernel
theorem dX10_isInItem_36 : decode cX10_isInItem 36 = .ok (.iload_n 3, 1) := by decide +kernel
theorem dX10_isInItem_37 : decode cX10_isInItem 37 = .ok (.iaload, 1) := by decide +kernel
theorem dX10_isInItem_38 : decode cX10_isInItem 38 = .ok (.iaload, 1) := by decide +kernel
theorem dX10_isInItem_39 : decode cX10_isInItem 39 = .ok (.istore_n 3, 1) := by decide +kernel
theorem dX10_isInItem_40 : decode cX10_isInItem 40 = .ok (.goto (-33), 3) := by decide +kernel
theorem dX10_isInItem_0 : decode cX10_isInItem 0 = .ok (.aload_n 0, 1) := by decide +kernel
theorem dX10_isInItem_1 : decode cX10_isInItem 1 = .ok (.getfield 64, 3) := by decide +kernel
theorem dX10_isInItem_4 : decode cX10_isInItem 4 = .ok (.iload_n 2, 1) := by decide +kernel
theorem dX10_isInItem_5 : decode cX10_isInItem 5 = .ok (.iaload, 1) := by decide +kernel
theorem dX10_isInItem_6 : decode cX10_isInItem 6 = .ok (.istore_n 3, 1) := by decide +kernel
theorem dX10_endOfBlock_6 : decode cX10_endOfBlock 6 = .ok (.iload 4, 2) := by decide +kernel
theorem dX10_endOfBlock_8 : decode cX10_endOfBlock 8 = .ok (.aload_n 0, 1) := by decide +kernel
theorem dX10_endOfBlock_9 : decode cX10_endOfBlock 9 = .ok (.getfield 258, 3) := by decide +kernel
theorem dX10_endOfBlock_12 : decode cX10_endOfBlock 12 = .ok (.if_icmp .ge 36, 3) := by decide +kernel
theorem dX10_endOfBlock_48 : decode cX10_endOfBlock 48 = .ok (.iload_n 3, 1) := by decide +kernel
theorem dX10_endOfBlock_49 : decode cX10_endOfBlock 49 = .ok (.ireturn, 1) := by decide +kernel
theorem dX10_endOfBlock_15 : decode cX10_endOfBlock 15 = .ok (.aload_n 0, 1) := by decide +kernel
theorem dX10_endOfBlock_16 : decode cX10_endOfBlock 16 = .ok (.iload_n 1, 1) := by decide +kernel
theorem dX10_endOfBlock_17 : decode cX10_endOfBlock 17 = .ok (.iload 4, 2) := by decide +kernel
theorem dX10_endOfBlock_19 : decode cX10_endOfBlock 19 = .ok (.invokevirtual 352, 3) := by decide +kernel
theorem dX10_endOfBlock_22 : decode cX10_endOfBlock 22 = .ok (.ifCond .eq 18, 3) := by decide +kernel
theorem dX10_endOfBlock_40 : decode cX10_endOfBlock 40 = .ok (.iload_n 3, 1) := by decide +kernel
theorem dX10_endOfBlock_41 : decode cX10_endOfBlock 41 = .ok (.istore_n 3, 1) := by decide +kernel
theorem dX10_endOfBlock_42 : decode cX10_endOfBlock 42 = .ok (.iinc 4 1, 3) := by decide +kernel
theorem dX10_endOfBlock_45 : decode cX10_endOfBlock 45 = .ok (.goto (-39), 3) := by decide +kernel
theorem dX10_endOfBlock_25 : decode cX10_endOfBlock 25 = .ok (.iload_n 2, 1) := by decide +kernel
theorem dX10_endOfBlock_26 : decode cX10_endOfBlock 26 = .ok (.ifCond .ne 9, 3) := by decide +kernel
theorem dX10_endOfBlock_35 : decode cX10_endOfBlock 35 = .ok (.iload 4, 2) := by decide +kernel
theorem dX10_endOfBlock_37 : decode cX10_endOfBlock 37 = .ok (.goto 4, 3) := by decide +kernel
theorem dX10_endOfBlock_29 : decode cX10_endOfBlock 29 = .ok (.iload_n 3, 1) := by decide +kernel
theorem dX10_endOfBlock_30 : decode cX10_endOfBlock 30 = .ok (.bipush (-9), 2) := by decide +kernel
theorem dX10_endOfBlock_32 : decode cX10_endOfBlock 32 = .ok (.if_icmp .ne 8, 3) := by decide +kernel
theorem dX10_endOfBlock_0 : decode cX10_endOfBlock 0 = .ok (.bipush (-9), 2) := by decide +kernel
theorem dX10_endOfBlock_2 : decode cX10_endOfBlock 2 = .ok (.istore_n 3, 1) := by decide +kernel
theorem dX10_endOfBlock_3 : decode cX10_endOfBlock 3 = .ok (.iconst 0, 1) := by decide +kernel
theorem dX10_endOfBlock_4 : decode cX10_endOfBlock 4 = .ok (.istore 4, 2) := by decide +kernel
theorem dX10_endOfItem_6 : decode cX10_endOfItem 6 = .ok (.iload 4, 2) := by decide +kernel
theorem dX10_endOfItem_8 : decode cX10_endOfItem 8 = .ok (.aload_n 0, 1) := by decide +kernel
theorem dX10_endOfItem_9 : decode cX10_endOfItem 9 = .ok (.getfield 258, 3) := by decide +kernel
theorem dX10_endOfItem_12 : decode cX10_endOfItem 12 = .ok (.if_icmp .ge 36, 3) := by decide +kernel
theorem dX10_endOfItem_48 : decode cX10_endOfItem 48 = .ok (.iload_n 3, 1) := by decide +kernel
theorem dX10_endOfItem_49 : decode cX10_endOfItem 49 = .ok (.ireturn, 1) := by decide +kernel
theorem dX10_endOfItem_15 : decode cX10_endOfItem 15 = .ok (.aload_n 0, 1) := by decide +kernel
theorem dX10_endOfItem_16 : decode cX10_endOfItem 16 = .ok (.iload_n 1, 1) := by decide +kernel
theorem dX10_endOfItem_17 : decode cX10_endOfItem 17 = .ok (.iload 4, 2) := by decide +kernel
theorem dX10_endOfItem_19 : decode cX10_endOfItem 19 = .ok (.invokevirtual 355, 3) := by decide +kernel
theorem dX10_endOfItem_22 : decode cX10_endOfItem 22 = .ok (.ifCond .eq 18, 3) := by decide +kernel
theorem dX10_endOfItem_40 : decode cX10_endOfItem 40 = .ok (.iload_n 3, 1) := by decide +kernel
theorem dX10_endOfItem_41 : decode cX10_endOfItem 41 = .ok (.istore_n 3, 1) := by decide +kernel
theorem dX10_endOfItem_42 : decode cX10_endOfItem 42 = .ok (.iinc 4 1, 3) := by decide +kernel
theorem dX10_endOfItem_45 : decode cX10_endOfItem 45 = .ok (.goto (-39), 3) := by decide +kernel
theorem dX10_endOfItem_25 : decode cX10_endOfItem 25 = .ok (.iload_n 2, 1) := by decide +kernel
theorem dX10_endOfItem_26 : decode cX10_endOfItem 26 = .ok (.ifCond .ne 9, 3) := by decide +kernel
theorem dX10_endOfItem_35 : decode cX10_endOfItem 35 = .ok (.iload 4, 2) := by decide +kernel
theorem dX10_endOfItem_37 : decode cX10_endOfItem 37 = .ok (.goto 4, 3) := by decide +kernel
theorem dX10_endOfItem_29 : decode cX10_endOfItem 29 = .ok (.iload_n 3, 1) := by decide +kernel
theorem dX10_endOfItem_30 : decode cX10_endOfItem 30 = .ok (.bipush (-9), 2) := by decide +kernel
theorem dX10_endOfItem_32 : decode cX10_endOfItem 32 = .ok (.if_icmp .ne 8, 3) := by decide +kernel
theorem dX10_endOfItem_0 : decode cX10_endOfItem 0 = .ok (.bipush (-9), 2) := by decide +kernel
theorem dX10_endOfItem_2 : decode cX10_endOfItem 2 = .ok (.istore_n 3, 1) := by decide +kernel
theorem dX10_endOfItem_3 : decode cX10_endOfItem 3 = .ok (.iconst 0, 1) := by decide +kernel
theorem dX10_endOfItem_4 : decode cX10_endOfItem 4 = .ok (.istore 4, 2) := by decide +kernel
set_option maxHeartbeats 4000000 in
set_option maxRecDepth 100000 in
theorem m_depth (l : Launch) (D : va_G) (tA : Nat → ClassId) (b : Nat) (i F : Nat → Nat → Int32) (G : Nat → Nat → Int64) (x : Int32) (hWA : WA F) (hz : (F 100 0).toInt = -9) (hx : 0 ≤ x.toInt ∧ x.toInt < 1202) : xMI l yX10_depth cX10_depth 4 (some .int) 0 0 D tA b 78 52 i F G [.ref (b + 78), .int x] (fun r u => u = (i, F, G) ∧ True) := by
  refine xstart RX10 rfl (by decide) (Nat.le_of_ble_eq_true rfl) ?_
  intro p e s m below meth c ls C0 hr hH hS hl
  have hl : lv_has ls 4 [(0, .ref (b + 78)), (1, .int x)] := hl
  have rg_x := fb_rng x
  have L4 : ∀ (d : Nat) (k q : Int32) (H : Heap) (locs : List Loc) (ls : Array Slot), (0 ≤ k.toInt ∧ k.toInt < 1202) → (k.toInt ≤ d) → Hd D tA b 78 52 zz i F G H → va_S (xA b 78 52) s.heap H locs → lv_has ls 4 [(3, .int k), (2, .int q), (0, .ref (b + 78)), (1, .int x)] → W p l e (xR 0 0) s m ([.ref (b + 78), .int x] : List Value).toArray below meth c H locs 0 0 (MQ below (va_Qi (fun r u => u = (i, F, G) ∧ True) (xB D tA b 78 52 zz) (xA b 78 52)) ([.ref (b + 78), .int x] : List Value).toArray s 0 0 (xA b 78 52)) (F0 m 4 ls []) := by
    intro d
    induction d with
    | zero =>
      intro k q H locs ls h1 h2 hH hS hl
      have rg_k := fb_rng k
      have rg_q := fb_rng q
      refine lv_aload_n (pc := 4) C0.1 C0.2.1 dX10_depth_4 rfl (lv_at hl 2 rfl) ?_
      refine xget (pc := 5) C0 hH 78 35 clX10 ⟨Nat.le_of_ble_eq_true rfl, Nat.le_of_ble_eq_true rfl⟩ ⟨rfl, rfl⟩ (Nat.le_of_ble_eq_true rfl) fl_X10_79 (v := .ref (b + 100)) rfl dX10_depth_5 ?_
      refine lv_iload_n (pc := 8) C0.1 C0.2.1 dX10_depth_8 rfl (lv_at hl 0 rfl) ?_
      refine xiald (pc := 9) (N := 1202) C0 hH 100 ⟨Nat.le_of_ble_eq_true rfl, Nat.le_of_ble_eq_true rfl⟩ ⟨rfl, rfl⟩ (vI (by omega) (by omega)) dX10_depth_9 ?_
      refine lv_bipush (pc := 10) (v := (-9)) C0.1 C0.2.1 dX10_depth_10 (by decide) ?_
      have ck := clI (x := k) (by omega)
      have c0 : Int32.toNatClampNeg k = 0 := (by omega)
      have hb9 : (F 100 (Int32.toNatClampNeg k)).toInt = Int32.toInt (-9) := (by rw [c0]; exact hz)
      refine lv_icmp_eq (pc := 12) (tgt := 33) C0.1 C0.2.1 dX10_depth_12 (by decide) (fun _ => ?_) (fun c => absurd (Int32.toInt_inj.mp hb9) c)
      refine lv_iload_n (pc := 33) C0.1 C0.2.1 dX10_depth_33 rfl (lv_at hl 1 rfl) ?_
      exact xiret (pc := 34) C0 hr hH hS dX10_depth_34 ⟨rfl, trivial⟩
    | succ d ih4 =>
      intro k q H locs ls h1 h2 hH hS hl
      have rg_k := fb_rng k
      have rg_q := fb_rng q
      refine lv_aload_n (pc := 4) C0.1 C0.2.1 dX10_depth_4 rfl (lv_at hl 2 rfl) ?_
      refine xget (pc := 5) C0 hH 78 35 clX10 ⟨Nat.le_of_ble_eq_true rfl, Nat.le_of_ble_eq_true rfl⟩ ⟨rfl, rfl⟩ (Nat.le_of_ble_eq_true rfl) fl_X10_79 (v := .ref (b + 100)) rfl dX10_depth_5 ?_
      refine lv_iload_n (pc := 8) C0.1 C0.2.1 dX10_depth_8 rfl (lv_at hl 0 rfl) ?_
      refine xiald (pc := 9) (N := 1202) C0 hH 100 ⟨Nat.le_of_ble_eq_true rfl, Nat.le_of_ble_eq_true rfl⟩ ⟨rfl, rfl⟩ (vI (by omega) (by omega)) dX10_depth_9 ?_
      refine lv_bipush (pc := 10) (v := (-9)) C0.1 C0.2.1 dX10_depth_10 (by decide) ?_
      refine lv_icmp_eq (pc := 12) (tgt := 33) C0.1 C0.2.1 dX10_depth_12 (by decide) (fun c201 => ?_) (fun c201 => ?_)
      · have : Int32.toInt (-9) = (-9) := rfl
        have c201 := congrArg Int32.toInt c201
        refine lv_iload_n (pc := 33) C0.1 C0.2.1 dX10_depth_33 rfl (lv_at hl 1 rfl) ?_
        exact xiret (pc := 34) C0 hr hH hS dX10_depth_34 ⟨rfl, trivial⟩
      · have : Int32.toInt (-9) = (-9) := rfl
        have c201 : ¬ _ := fun q => c201 (Int32.toInt_inj.mp q)
        have hup := WA.up hWA hz (k := k) (by omega) (by omega)
        refine lv_aload_n (pc := 15) C0.1 C0.2.1 dX10_depth_15 rfl (lv_at hl 2 rfl) ?_
        refine xget (pc := 16) C0 hH 78 41 clX10 ⟨Nat.le_of_ble_eq_true rfl, Nat.le_of_ble_eq_true rfl⟩ ⟨rfl, rfl⟩ (Nat.le_of_ble_eq_true rfl) fl_X10_94 (v := .ref (b + 105)) rfl dX10_depth_16 ?_
        refine lv_aload_n (pc := 19) C0.1 C0.2.1 dX10_depth_19 rfl (lv_at hl 2 rfl) ?_
        refine xget (pc := 20) C0 hH 78 35 clX10 ⟨Nat.le_of_ble_eq_true rfl, Nat.le_of_ble_eq_true rfl⟩ ⟨rfl, rfl⟩ (Nat.le_of_ble_eq_true rfl) fl_X10_79 (v := .ref (b + 100)) rfl dX10_depth_20 ?_
        refine lv_iload_n (pc := 23) C0.1 C0.2.1 dX10_depth_23 rfl (lv_at hl 0 rfl) ?_
        refine xiald (pc := 24) (N := 1202) C0 hH 100 ⟨Nat.le_of_ble_eq_true rfl, Nat.le_of_ble_eq_true rfl⟩ ⟨rfl, rfl⟩ (vI (by omega) (by omega)) dX10_depth_24 ?_
        refine xiald (pc := 25) (N := 1202) C0 hH 105 ⟨Nat.le_of_ble_eq_true rfl, Nat.le_of_ble_eq_true rfl⟩ ⟨rfl, rfl⟩ (vI hup.1.1 hup.1.2) dX10_depth_25 ?_
        refine lv_topi (fun x202 ex202 => ?_)
        refine lv_istore_n (pc := 26) (lv' := [(3, .int x202), (2, .int q), (0, .ref (b + 78)), (1, .int x)]) C0.1 C0.2.1 dX10_depth_26 rfl hl (by decide) rfl (fun ls hl => ?_)
        obtain ⟨x203, ex203⟩ : ∃ y_ : Int32, y_ = q + 1 := ⟨_, rfl⟩
        refine lv_iinc (pc := 27) (v := x203) (lv' := [(2, .int x203), (3, .int x202), (0, .ref (b + 78)), (1, .int x)]) C0.1 C0.2.1 dX10_depth_27 hl (k := 1) rfl (by rw [ex203]; rfl) (by decide) rfl (fun ls hl => ?_)
        refine lv_goto (pc := 30) (tgt := 4) C0.1 C0.2.1 dX10_depth_30 (by decide) ?_
        exact ih4 x202 x203 _ _ _ (by rw [ex202]; omega) (by rw [ex202]; omega) hH hS (lv_sub hl [1, 0, 2, 3] rfl)
  refine lv_iconst (pc := 0) (v := 0) C0.1 C0.2.1 dX10_depth_0 (by decide) ?_
  refine lv_istore_n (pc := 1) (lv' := [(2, .int 0), (0, .ref (b + 78)), (1, .int x)]) C0.1 C0.2.1 dX10_depth_1 rfl hl (by decide) rfl (fun ls hl => ?_)
  refine lv_iload_n (pc := 2) C0.1 C0.2.1 dX10_depth_2 rfl (lv_at hl 2 rfl) ?_
  refine lv_istore_n (pc := 3) (lv' := [(3, .int x), (2, .int 0), (0, .ref (b + 78)), (1, .int x)]) C0.1 C0.2.1 dX10_depth_3 rfl hl (by decide) rfl (fun ls hl => ?_)
  exact L4 1202 x 0 _ _ _ hx (by omega) hH hS (lv_sub hl [0, 1, 2, 3] rfl)
set_option maxHeartbeats 4000000 in
set_option maxRecDepth 100000 in
theorem m_isAround (l : Launch) (D : va_G) (tA : Nat → ClassId) (b : Nat) (i F : Nat → Nat → Int32) (G : Nat → Nat → Int64) (x y : Int32) (hWA : WA F) (hz : (F 100 0).toInt = -9) (hy : 0 ≤ y.toInt ∧ y.toInt < 600) : xMI l yX10_isAround cX10_isAround 4 (some .boolean) 0 0 D tA b 78 52 i F G [.ref (b + 78), .int x, .int y] (fun r u => u = (i, F, G) ∧ (r.toInt = 0 ∨ r.toInt = 1)) := by
  refine xstart RX10 rfl (by decide) (Nat.le_of_ble_eq_true rfl) ?_
  intro p e s m below meth c ls C0 hr hH hS hl
  have hl : lv_has ls 4 [(0, .ref (b + 78)), (1, .int x), (2, .int y)] := hl
  have rg_x := fb_rng x
  have rg_y := fb_rng y
  have L12 : ∀ (d : Nat) (k : Int32) (H : Heap) (locs : List Loc) (ls : Array Slot), (0 ≤ k.toInt ∧ k.toInt < 1202) → (k.toInt ≤ d) → Hd D tA b 78 52 zz i F G H → va_S (xA b 78 52) s.heap H locs → lv_has ls 4 [(3, .int k), (0, .ref (b + 78)), (1, .int x), (2, .int y)] → W p l e (xR 0 0) s m ([.ref (b + 78), .int x, .int y] : List Value).toArray below meth c H locs 0 0 (MQ below (va_Qi (fun r u => u = (i, F, G) ∧ (r.toInt = 0 ∨ r.toInt = 1)) (xB D tA b 78 52 zz) (xA b 78 52)) ([.ref (b + 78), .int x, .int y] : List Value).toArray s 0 0 (xA b 78 52)) (F0 m 12 ls []) := by
    intro d
    induction d with
    | zero =>
      intro k H locs ls h1 h2 hH hS hl
      have rg_k := fb_rng k
      refine lv_iload_n (pc := 12) C0.1 C0.2.1 dX10_isAround_12 rfl (lv_at hl 0 rfl) ?_
      refine lv_iload_n (pc := 13) C0.1 C0.2.1 dX10_isAround_13 rfl (lv_at hl 2 rfl) ?_
      refine lv_icmp_eq (pc := 14) (tgt := 43) C0.1 C0.2.1 dX10_isAround_14 (by decide) (fun c201 => ?_) (fun c201 => ?_)
      · have c201 := congrArg Int32.toInt c201
        refine lv_iload_n (pc := 43) C0.1 C0.2.1 dX10_isAround_43 rfl (lv_at hl 0 rfl) ?_
        refine lv_iload_n (pc := 44) C0.1 C0.2.1 dX10_isAround_44 rfl (lv_at hl 2 rfl) ?_
        refine lv_icmp_ne (pc := 45) (tgt := 52) C0.1 C0.2.1 dX10_isAround_45 (by decide) (fun c202 => ?_) (fun c202 => ?_)
        · have c202 : ¬ _ := fun q => c202 (Int32.toInt_inj.mp q)
          refine lv_iconst (pc := 52) (v := 0) C0.1 C0.2.1 dX10_isAround_52 (by decide) ?_
          exact xzret (pc := 53) C0 hr hH hS dX10_isAround_53 (by decide) ⟨rfl, by decide⟩
        · have c202 := congrArg Int32.toInt c202
          refine lv_iconst (pc := 48) (v := 1) C0.1 C0.2.1 dX10_isAround_48 (by decide) ?_
          refine lv_goto (pc := 49) (tgt := 53) C0.1 C0.2.1 dX10_isAround_49 (by decide) ?_
          exact xzret (pc := 53) C0 hr hH hS dX10_isAround_53 (by decide) ⟨rfl, by decide⟩
      · have c201 : ¬ _ := fun q => c201 (Int32.toInt_inj.mp q)
        refine lv_aload_n (pc := 17) C0.1 C0.2.1 dX10_isAround_17 rfl (lv_at hl 1 rfl) ?_
        refine xget (pc := 18) C0 hH 78 35 clX10 ⟨Nat.le_of_ble_eq_true rfl, Nat.le_of_ble_eq_true rfl⟩ ⟨rfl, rfl⟩ (Nat.le_of_ble_eq_true rfl) fl_X10_79 (v := .ref (b + 100)) rfl dX10_isAround_18 ?_
        refine lv_iload_n (pc := 21) C0.1 C0.2.1 dX10_isAround_21 rfl (lv_at hl 0 rfl) ?_
        refine xiald (pc := 22) (N := 1202) C0 hH 100 ⟨Nat.le_of_ble_eq_true rfl, Nat.le_of_ble_eq_true rfl⟩ ⟨rfl, rfl⟩ (vI (by omega) (by omega)) dX10_isAround_22 ?_
        refine lv_bipush (pc := 23) (v := (-9)) C0.1 C0.2.1 dX10_isAround_23 (by decide) ?_
        have ck := clI (x := k) (by omega)
        have c0 : Int32.toNatClampNeg k = 0 := (by omega)
        have hb9 : (F 100 (Int32.toNatClampNeg k)).toInt = Int32.toInt (-9) := (by rw [c0]; exact hz)
        refine lv_icmp_eq (pc := 25) (tgt := 43) C0.1 C0.2.1 dX10_isAround_25 (by decide) (fun _ => ?_) (fun c => absurd (Int32.toInt_inj.mp hb9) c)
        refine lv_iload_n (pc := 43) C0.1 C0.2.1 dX10_isAround_43 rfl (lv_at hl 0 rfl) ?_
        refine lv_iload_n (pc := 44) C0.1 C0.2.1 dX10_isAround_44 rfl (lv_at hl 2 rfl) ?_
        refine lv_icmp_ne (pc := 45) (tgt := 52) C0.1 C0.2.1 dX10_isAround_45 (by decide) (fun c203 => ?_) (fun c203 => ?_)
        · have c203 : ¬ _ := fun q => c203 (Int32.toInt_inj.mp q)
          refine lv_iconst (pc := 52) (v := 0) C0.1 C0.2.1 dX10_isAround_52 (by decide) ?_
          exact xzret (pc := 53) C0 hr hH hS dX10_isAround_53 (by decide) ⟨rfl, by decide⟩
        · have c203 := congrArg Int32.toInt c203
          refine lv_iconst (pc := 48) (v := 1) C0.1 C0.2.1 dX10_isAround_48 (by decide) ?_
          refine lv_goto (pc := 49) (tgt := 53) C0.1 C0.2.1 dX10_isAround_49 (by decide) ?_
          exact xzret (pc := 53) C0 hr hH hS dX10_isAround_53 (by decide) ⟨rfl, by decide⟩
    | succ d ih12 =>
      intro k H locs ls h1 h2 hH hS hl
      have rg_k := fb_rng k
      refine lv_iload_n (pc := 12) C0.1 C0.2.1 dX10_isAround_12 rfl (lv_at hl 0 rfl) ?_
      refine lv_iload_n (pc := 13) C0.1 C0.2.1 dX10_isAround_13 rfl (lv_at hl 2 rfl) ?_
      refine lv_icmp_eq (pc := 14) (tgt := 43) C0.1 C0.2.1 dX10_isAround_14 (by decide) (fun c201 => ?_) (fun c201 => ?_)
      · have c201 := congrArg Int32.toInt c201
        refine lv_iload_n (pc := 43) C0.1 C0.2.1 dX10_isAround_43 rfl (lv_at hl 0 rfl) ?_
        refine lv_iload_n (pc := 44) C0.1 C0.2.1 dX10_isAround_44 rfl (lv_at hl 2 rfl) ?_
        refine lv_icmp_ne (pc := 45) (tgt := 52) C0.1 C0.2.1 dX10_isAround_45 (by decide) (fun c202 => ?_) (fun c202 => ?_)
        · have c202 : ¬ _ := fun q => c202 (Int32.toInt_inj.mp q)
          refine lv_iconst (pc := 52) (v := 0) C0.1 C0.2.1 dX10_isAround_52 (by decide) ?_
          exact xzret (pc := 53) C0 hr hH hS dX10_isAround_53 (by decide) ⟨rfl, by decide⟩
        · have c202 := congrArg Int32.toInt c202
          refine lv_iconst (pc := 48) (v := 1) C0.1 C0.2.1 dX10_isAround_48 (by decide) ?_
          refine lv_goto (pc := 49) (tgt := 53) C0.1 C0.2.1 dX10_isAround_49 (by decide) ?_
          exact xzret (pc := 53) C0 hr hH hS dX10_isAround_53 (by decide) ⟨rfl, by decide⟩
      · have c201 : ¬ _ := fun q => c201 (Int32.toInt_inj.mp q)
        refine lv_aload_n (pc := 17) C0.1 C0.2.1 dX10_isAround_17 rfl (lv_at hl 1 rfl) ?_
        refine xget (pc := 18) C0 hH 78 35 clX10 ⟨Nat.le_of_ble_eq_true rfl, Nat.le_of_ble_eq_true rfl⟩ ⟨rfl, rfl⟩ (Nat.le_of_ble_eq_true rfl) fl_X10_79 (v := .ref (b + 100)) rfl dX10_isAround_18 ?_
        refine lv_iload_n (pc := 21) C0.1 C0.2.1 dX10_isAround_21 rfl (lv_at hl 0 rfl) ?_
        refine xiald (pc := 22) (N := 1202) C0 hH 100 ⟨Nat.le_of_ble_eq_true rfl, Nat.le_of_ble_eq_true rfl⟩ ⟨rfl, rfl⟩ (vI (by omega) (by omega)) dX10_isAround_22 ?_
        refine lv_bipush (pc := 23) (v := (-9)) C0.1 C0.2.1 dX10_isAround_23 (by decide) ?_
        refine lv_icmp_eq (pc := 25) (tgt := 43) C0.1 C0.2.1 dX10_isAround_25 (by decide) (fun c203 => ?_) (fun c203 => ?_)
        · have : Int32.toInt (-9) = (-9) := rfl
          have c203 := congrArg Int32.toInt c203
          refine lv_iload_n (pc := 43) C0.1 C0.2.1 dX10_isAround_43 rfl (lv_at hl 0 rfl) ?_
          refine lv_iload_n (pc := 44) C0.1 C0.2.1 dX10_isAround_44 rfl (lv_at hl 2 rfl) ?_
          refine lv_icmp_ne (pc := 45) (tgt := 52) C0.1 C0.2.1 dX10_isAround_45 (by decide) (fun c204 => ?_) (fun c204 => ?_)
          · have c204 : ¬ _ := fun q => c204 (Int32.toInt_inj.mp q)
            refine lv_iconst (pc := 52) (v := 0) C0.1 C0.2.1 dX10_isAround_52 (by decide) ?_
            exact xzret (pc := 53) C0 hr hH hS dX10_isAround_53 (by decide) ⟨rfl, by decide⟩
          · have c204 := congrArg Int32.toInt c204
            refine lv_iconst (pc := 48) (v := 1) C0.1 C0.2.1 dX10_isAround_48 (by decide) ?_
            refine lv_goto (pc := 49) (tgt := 53) C0.1 C0.2.1 dX10_isAround_49 (by decide) ?_
            exact xzret (pc := 53) C0 hr hH hS dX10_isAround_53 (by decide) ⟨rfl, by decide⟩
        · have : Int32.toInt (-9) = (-9) := rfl
          have c203 : ¬ _ := fun q => c203 (Int32.toInt_inj.mp q)
          have hup := WA.up hWA hz (k := k) (by omega) (by omega)
          refine lv_aload_n (pc := 28) C0.1 C0.2.1 dX10_isAround_28 rfl (lv_at hl 1 rfl) ?_
          refine xget (pc := 29) C0 hH 78 41 clX10 ⟨Nat.le_of_ble_eq_true rfl, Nat.le_of_ble_eq_true rfl⟩ ⟨rfl, rfl⟩ (Nat.le_of_ble_eq_true rfl) fl_X10_94 (v := .ref (b + 105)) rfl dX10_isAround_29 ?_
          refine lv_aload_n (pc := 32) C0.1 C0.2.1 dX10_isAround_32 rfl (lv_at hl 1 rfl) ?_
          refine xget (pc := 33) C0 hH 78 35 clX10 ⟨Nat.le_of_ble_eq_true rfl, Nat.le_of_ble_eq_true rfl⟩ ⟨rfl, rfl⟩ (Nat.le_of_ble_eq_true rfl) fl_X10_79 (v := .ref (b + 100)) rfl dX10_isAround_33 ?_
          refine lv_iload_n (pc := 36) C0.1 C0.2.1 dX10_isAround_36 rfl (lv_at hl 0 rfl) ?_
          refine xiald (pc := 37) (N := 1202) C0 hH 100 ⟨Nat.le_of_ble_eq_true rfl, Nat.le_of_ble_eq_true rfl⟩ ⟨rfl, rfl⟩ (vI (by omega) (by omega)) dX10_isAround_37 ?_
          refine xiald (pc := 38) (N := 1202) C0 hH 105 ⟨Nat.le_of_ble_eq_true rfl, Nat.le_of_ble_eq_true rfl⟩ ⟨rfl, rfl⟩ (vI hup.1.1 hup.1.2) dX10_isAround_38 ?_
          refine lv_topi (fun x205 ex205 => ?_)
          refine lv_istore_n (pc := 39) (lv' := [(3, .int x205), (0, .ref (b + 78)), (1, .int x), (2, .int y)]) C0.1 C0.2.1 dX10_isAround_39 rfl hl (by decide) rfl (fun ls hl => ?_)
          refine lv_goto (pc := 40) (tgt := 12) C0.1 C0.2.1 dX10_isAround_40 (by decide) ?_
          exact ih12 x205 _ _ _ (by rw [ex205]; omega) (by rw [ex205]; omega) hH hS (lv_sub hl [0, 1, 2, 3] rfl)
  refine lv_aload_n (pc := 0) C0.1 C0.2.1 dX10_isAround_0 rfl (lv_at hl 0 rfl) ?_
  refine xget (pc := 1) C0 hH 78 41 clX10 ⟨Nat.le_of_ble_eq_true rfl, Nat.le_of_ble_eq_true rfl⟩ ⟨rfl, rfl⟩ (Nat.le_of_ble_eq_true rfl) fl_X10_94 (v := .ref (b + 105)) rfl dX10_isAround_1 ?_
  refine lv_aload_n (pc := 4) C0.1 C0.2.1 dX10_isAround_4 rfl (lv_at hl 0 rfl) ?_
  refine xget (pc := 5) C0 hH 78 27 clX10 ⟨Nat.le_of_ble_eq_true rfl, Nat.le_of_ble_eq_true rfl⟩ ⟨rfl, rfl⟩ (Nat.le_of_ble_eq_true rfl) fl_X10_64 (v := .ref (b + 95)) rfl dX10_isAround_5 ?_
  refine lv_iload_n (pc := 8) C0.1 C0.2.1 dX10_isAround_8 rfl (lv_at hl 2 rfl) ?_
  refine xiald (pc := 9) (N := 600) C0 hH 95 ⟨Nat.le_of_ble_eq_true rfl, Nat.le_of_ble_eq_true rfl⟩ ⟨rfl, rfl⟩ (vI (by omega) (by omega)) dX10_isAround_9 ?_
  refine xiald (pc := 10) (N := 1202) C0 hH 105 ⟨Nat.le_of_ble_eq_true rfl, Nat.le_of_ble_eq_true rfl⟩ ⟨rfl, rfl⟩ (vI (hWA.io _).1 (hWA.io _).2) dX10_isAround_10 ?_
  refine lv_topi (fun x1 ex1 => ?_)
  refine lv_istore_n (pc := 11) (lv' := [(3, .int x1), (0, .ref (b + 78)), (1, .int x), (2, .int y)]) C0.1 C0.2.1 dX10_isAround_11 rfl hl (by decide) rfl (fun ls hl => ?_)
  exact L12 1202 x1 _ _ _ (by rw [ex1]; exact hWA.ib _) (by have := hWA.ib (Int32.toNatClampNeg (F 95 (Int32.toNatClampNeg y))); rw [ex1]; omega) hH hS (lv_sub hl [0, 1, 2, 3] rfl)
set_option maxHeartbeats 4000000 in
set_option maxRecDepth 100000 in
theorem m_isInItem (l : Launch) (D : va_G) (tA : Nat → ClassId) (b : Nat) (i F : Nat → Nat → Int32) (G : Nat → Nat → Int64) (x y : Int32) (hWA : WA F) (hz : (F 100 0).toInt = -9) (hy : 0 ≤ y.toInt ∧ y.toInt < 600) : xMI l yX10_isInItem cX10_isInItem 4 (some .boolean) 0 0 D tA b 78 52 i F G [.ref (b + 78), .int x, .int y] (fun r u => u = (i, F, G) ∧ (r.toInt = 0 ∨ r.toInt = 1)) := by
  refine xstart RX10 rfl (by decide) (Nat.le_of_ble_eq_true rfl) ?_
  intro p e s m below meth c ls C0 hr hH hS hl
  have hl : lv_has ls 4 [(0, .ref (b + 78)), (1, .int x), (2, .int y)] := hl
  have rg_x := fb_rng x
  have rg_y := fb_rng y
  have L7 : ∀ (d : Nat) (k : Int32) (H : Heap) (locs : List Loc) (ls : Array Slot), (0 ≤ k.toInt ∧ k.toInt < 1202) → ((F 105 (Int32.toNatClampNeg k)).toInt ≤ d) → Hd D tA b 78 52 zz i F G H → va_S (xA b 78 52) s.heap H locs → lv_has ls 4 [(3, .int k), (0, .ref (b + 78)), (1, .int x), (2, .int y)] → W p l e (xR 0 0) s m ([.ref (b + 78), .int x, .int y] : List Value).toArray below meth c H locs 0 0 (MQ below (va_Qi (fun r u => u = (i, F, G) ∧ (r.toInt = 0 ∨ r.toInt = 1)) (xB D tA b 78 52 zz) (xA b 78 52)) ([.ref (b + 78), .int x, .int y] : List Value).toArray s 0 0 (xA b 78 52)) (F0 m 7 ls []) := by
    intro d
    induction d with
    | zero =>
      intro k H locs ls h1 h2 hH hS hl
      have rg_k := fb_rng k
      refine lv_iload_n (pc := 7) C0.1 C0.2.1 dX10_isInItem_7 rfl (lv_at hl 0 rfl) ?_
      refine lv_iload_n (pc := 8) C0.1 C0.2.1 dX10_isInItem_8 rfl (lv_at hl 2 rfl) ?_
      refine lv_icmp_eq (pc := 9) (tgt := 43) C0.1 C0.2.1 dX10_isInItem_9 (by decide) (fun c201 => ?_) (fun c201 => ?_)
      · have c201 := congrArg Int32.toInt c201
        refine lv_iload_n (pc := 43) C0.1 C0.2.1 dX10_isInItem_43 rfl (lv_at hl 0 rfl) ?_
        refine lv_iload_n (pc := 44) C0.1 C0.2.1 dX10_isInItem_44 rfl (lv_at hl 2 rfl) ?_
        refine lv_icmp_ne (pc := 45) (tgt := 52) C0.1 C0.2.1 dX10_isInItem_45 (by decide) (fun c202 => ?_) (fun c202 => ?_)
        · have c202 : ¬ _ := fun q => c202 (Int32.toInt_inj.mp q)
          refine lv_iconst (pc := 52) (v := 0) C0.1 C0.2.1 dX10_isInItem_52 (by decide) ?_
          exact xzret (pc := 53) C0 hr hH hS dX10_isInItem_53 (by decide) ⟨rfl, by decide⟩
        · have c202 := congrArg Int32.toInt c202
          refine lv_iconst (pc := 48) (v := 1) C0.1 C0.2.1 dX10_isInItem_48 (by decide) ?_
          refine lv_goto (pc := 49) (tgt := 53) C0.1 C0.2.1 dX10_isInItem_49 (by decide) ?_
          exact xzret (pc := 53) C0 hr hH hS dX10_isInItem_53 (by decide) ⟨rfl, by decide⟩
      · have c201 : ¬ _ := fun q => c201 (Int32.toInt_inj.mp q)
        refine lv_aload_n (pc := 12) C0.1 C0.2.1 dX10_isInItem_12 rfl (lv_at hl 1 rfl) ?_
        refine xget (pc := 13) C0 hH 78 35 clX10 ⟨Nat.le_of_ble_eq_true rfl, Nat.le_of_ble_eq_true rfl⟩ ⟨rfl, rfl⟩ (Nat.le_of_ble_eq_true rfl) fl_X10_79 (v := .ref (b + 100)) rfl dX10_isInItem_13 ?_
        refine lv_aload_n (pc := 16) C0.1 C0.2.1 dX10_isInItem_16 rfl (lv_at hl 1 rfl) ?_
        refine xget (pc := 17) C0 hH 78 41 clX10 ⟨Nat.le_of_ble_eq_true rfl, Nat.le_of_ble_eq_true rfl⟩ ⟨rfl, rfl⟩ (Nat.le_of_ble_eq_true rfl) fl_X10_94 (v := .ref (b + 105)) rfl dX10_isInItem_17 ?_
        refine lv_iload_n (pc := 20) C0.1 C0.2.1 dX10_isInItem_20 rfl (lv_at hl 0 rfl) ?_
        refine xiald (pc := 21) (N := 1202) C0 hH 105 ⟨Nat.le_of_ble_eq_true rfl, Nat.le_of_ble_eq_true rfl⟩ ⟨rfl, rfl⟩ (vI (by omega) (by omega)) dX10_isInItem_21 ?_
        refine xiald (pc := 22) (N := 1202) C0 hH 100 ⟨Nat.le_of_ble_eq_true rfl, Nat.le_of_ble_eq_true rfl⟩ ⟨rfl, rfl⟩ (vI (hWA.ib _).1 (hWA.ib _).2) dX10_isInItem_22 ?_
        refine lv_bipush (pc := 23) (v := (-9)) C0.1 C0.2.1 dX10_isInItem_23 (by decide) ?_
        have hib := hWA.ib (Int32.toNatClampNeg k)
        have ck := clI (x := F 105 (Int32.toNatClampNeg k)) (by omega)
        have c0 : Int32.toNatClampNeg (F 105 (Int32.toNatClampNeg k)) = 0 := (by omega)
        have hb9 : (F 100 (Int32.toNatClampNeg (F 105 (Int32.toNatClampNeg k)))).toInt = Int32.toInt (-9) := (by rw [c0]; exact hz)
        refine lv_icmp_eq (pc := 25) (tgt := 43) C0.1 C0.2.1 dX10_isInItem_25 (by decide) (fun _ => ?_) (fun c => absurd (Int32.toInt_inj.mp hb9) c)
        refine lv_iload_n (pc := 43) C0.1 C0.2.1 dX10_isInItem_43 rfl (lv_at hl 0 rfl) ?_
        refine lv_iload_n (pc := 44) C0.1 C0.2.1 dX10_isInItem_44 rfl (lv_at hl 2 rfl) ?_
        refine lv_icmp_ne (pc := 45) (tgt := 52) C0.1 C0.2.1 dX10_isInItem_45 (by decide) (fun c203 => ?_) (fun c203 => ?_)
        · have c203 : ¬ _ := fun q => c203 (Int32.toInt_inj.mp q)
          refine lv_iconst (pc := 52) (v := 0) C0.1 C0.2.1 dX10_isInItem_52 (by decide) ?_
          exact xzret (pc := 53) C0 hr hH hS dX10_isInItem_53 (by decide) ⟨rfl, by decide⟩
        · have c203 := congrArg Int32.toInt c203
          refine lv_iconst (pc := 48) (v := 1) C0.1 C0.2.1 dX10_isInItem_48 (by decide) ?_
          refine lv_goto (pc := 49) (tgt := 53) C0.1 C0.2.1 dX10_isInItem_49 (by decide) ?_
          exact xzret (pc := 53) C0 hr hH hS dX10_isInItem_53 (by decide) ⟨rfl, by decide⟩
    | succ d ih7 =>
      intro k H locs ls h1 h2 hH hS hl
      have rg_k := fb_rng k
      refine lv_iload_n (pc := 7) C0.1 C0.2.1 dX10_isInItem_7 rfl (lv_at hl 0 rfl) ?_
      refine lv_iload_n (pc := 8) C0.1 C0.2.1 dX10_isInItem_8 rfl (lv_at hl 2 rfl) ?_
      refine lv_icmp_eq (pc := 9) (tgt := 43) C0.1 C0.2.1 dX10_isInItem_9 (by decide) (fun c201 => ?_) (fun c201 => ?_)
      · have c201 := congrArg Int32.toInt c201
        refine lv_iload_n (pc := 43) C0.1 C0.2.1 dX10_isInItem_43 rfl (lv_at hl 0 rfl) ?_
        refine lv_iload_n (pc := 44) C0.1 C0.2.1 dX10_isInItem_44 rfl (lv_at hl 2 rfl) ?_
        refine lv_icmp_ne (pc := 45) (tgt := 52) C0.1 C0.2.1 dX10_isInItem_45 (by decide) (fun c202 => ?_) (fun c202 => ?_)
        · have c202 : ¬ _ := fun q => c202 (Int32.toInt_inj.mp q)
          refine lv_iconst (pc := 52) (v := 0) C0.1 C0.2.1 dX10_isInItem_52 (by decide) ?_
          exact xzret (pc := 53) C0 hr hH hS dX10_isInItem_53 (by decide) ⟨rfl, by decide⟩
        · have c202 := congrArg Int32.toInt c202
          refine lv_iconst (pc := 48) (v := 1) C0.1 C0.2.1 dX10_isInItem_48 (by decide) ?_
          refine lv_goto (pc := 49) (tgt := 53) C0.1 C0.2.1 dX10_isInItem_49 (by decide) ?_
          exact xzret (pc := 53) C0 hr hH hS dX10_isInItem_53 (by decide) ⟨rfl, by decide⟩
      · have c201 : ¬ _ := fun q => c201 (Int32.toInt_inj.mp q)
        refine lv_aload_n (pc := 12) C0.1 C0.2.1 dX10_isInItem_12 rfl (lv_at hl 1 rfl) ?_
        refine xget (pc := 13) C0 hH 78 35 clX10 ⟨Nat.le_of_ble_eq_true rfl, Nat.le_of_ble_eq_true rfl⟩ ⟨rfl, rfl⟩ (Nat.le_of_ble_eq_true rfl) fl_X10_79 (v := .ref (b + 100)) rfl dX10_isInItem_13 ?_
        refine lv_aload_n (pc := 16) C0.1 C0.2.1 dX10_isInItem_16 rfl (lv_at hl 1 rfl) ?_
        refine xget (pc := 17) C0 hH 78 41 clX10 ⟨Nat.le_of_ble_eq_true rfl, Nat.le_of_ble_eq_true rfl⟩ ⟨rfl, rfl⟩ (Nat.le_of_ble_eq_true rfl) fl_X10_94 (v := .ref (b + 105)) rfl dX10_isInItem_17 ?_
        refine lv_iload_n (pc := 20) C0.1 C0.2.1 dX10_isInItem_20 rfl (lv_at hl 0 rfl) ?_
        refine xiald (pc := 21) (N := 1202) C0 hH 105 ⟨Nat.le_of_ble_eq_true rfl, Nat.le_of_ble_eq_true rfl⟩ ⟨rfl, rfl⟩ (vI (by omega) (by omega)) dX10_isInItem_21 ?_
        refine xiald (pc := 22) (N := 1202) C0 hH 100 ⟨Nat.le_of_ble_eq_true rfl, Nat.le_of_ble_eq_true rfl⟩ ⟨rfl, rfl⟩ (vI (hWA.ib _).1 (hWA.ib _).2) dX10_isInItem_22 ?_
        refine lv_bipush (pc := 23) (v := (-9)) C0.1 C0.2.1 dX10_isInItem_23 (by decide) ?_
        refine lv_icmp_eq (pc := 25) (tgt := 43) C0.1 C0.2.1 dX10_isInItem_25 (by decide) (fun c203 => ?_) (fun c203 => ?_)
        · have : Int32.toInt (-9) = (-9) := rfl
          have c203 := congrArg Int32.toInt c203
          refine lv_iload_n (pc := 43) C0.1 C0.2.1 dX10_isInItem_43 rfl (lv_at hl 0 rfl) ?_
          refine lv_iload_n (pc := 44) C0.1 C0.2.1 dX10_isInItem_44 rfl (lv_at hl 2 rfl) ?_
          refine lv_icmp_ne (pc := 45) (tgt := 52) C0.1 C0.2.1 dX10_isInItem_45 (by decide) (fun c204 => ?_) (fun c204 => ?_)
          · have c204 : ¬ _ := fun q => c204 (Int32.toInt_inj.mp q)
            refine lv_iconst (pc := 52) (v := 0) C0.1 C0.2.1 dX10_isInItem_52 (by decide) ?_
            exact xzret (pc := 53) C0 hr hH hS dX10_isInItem_53 (by decide) ⟨rfl, by decide⟩
          · have c204 := congrArg Int32.toInt c204
            refine lv_iconst (pc := 48) (v := 1) C0.1 C0.2.1 dX10_isInItem_48 (by decide) ?_
            refine lv_goto (pc := 49) (tgt := 53) C0.1 C0.2.1 dX10_isInItem_49 (by decide) ?_
            exact xzret (pc := 53) C0 hr hH hS dX10_isInItem_53 (by decide) ⟨rfl, by decide⟩
        · have : Int32.toInt (-9) = (-9) := rfl
          have c203 : ¬ _ := fun q => c203 (Int32.toInt_inj.mp q)
          have hup := WA.up hWA hz (k := F 105 (Int32.toNatClampNeg k)) (hWA.ib _).1 (by omega)
          refine lv_aload_n (pc := 28) C0.1 C0.2.1 dX10_isInItem_28 rfl (lv_at hl 1 rfl) ?_
          refine xget (pc := 29) C0 hH 78 35 clX10 ⟨Nat.le_of_ble_eq_true rfl, Nat.le_of_ble_eq_true rfl⟩ ⟨rfl, rfl⟩ (Nat.le_of_ble_eq_true rfl) fl_X10_79 (v := .ref (b + 100)) rfl dX10_isInItem_29 ?_
          refine lv_aload_n (pc := 32) C0.1 C0.2.1 dX10_isInItem_32 rfl (lv_at hl 1 rfl) ?_
          refine xget (pc := 33) C0 hH 78 41 clX10 ⟨Nat.le_of_ble_eq_true rfl, Nat.le_of_ble_eq_true rfl⟩ ⟨rfl, rfl⟩ (Nat.le_of_ble_eq_true rfl) fl_X10_94 (v := .ref (b + 105)) rfl dX10_isInItem_33 ?_
          refine lv_iload_n (pc := 36) C0.1 C0.2.1 dX10_isInItem_36 rfl (lv_at hl 0 rfl) ?_
          refine xiald (pc := 37) (N := 1202) C0 hH 105 ⟨Nat.le_of_ble_eq_true rfl, Nat.le_of_ble_eq_true rfl⟩ ⟨rfl, rfl⟩ (vI (by omega) (by omega)) dX10_isInItem_37 ?_
          refine xiald (pc := 38) (N := 1202) C0 hH 100 ⟨Nat.le_of_ble_eq_true rfl, Nat.le_of_ble_eq_true rfl⟩ ⟨rfl, rfl⟩ (vI (hWA.ib _).1 (hWA.ib _).2) dX10_isInItem_38 ?_
          refine lv_topi (fun x205 ex205 => ?_)
          refine lv_istore_n (pc := 39) (lv' := [(3, .int x205), (0, .ref (b + 78)), (1, .int x), (2, .int y)]) C0.1 C0.2.1 dX10_isInItem_39 rfl hl (by decide) rfl (fun ls hl => ?_)
          refine lv_goto (pc := 40) (tgt := 7) C0.1 C0.2.1 dX10_isInItem_40 (by decide) ?_
          exact ih7 x205 _ _ _ (by rw [ex205]; omega) (by rw [ex205]; omega) hH hS (lv_sub hl [0, 1, 2, 3] rfl)
  refine lv_aload_n (pc := 0) C0.1 C0.2.1 dX10_isInItem_0 rfl (lv_at hl 0 rfl) ?_
  refine xget (pc := 1) C0 hH 78 27 clX10 ⟨Nat.le_of_ble_eq_true rfl, Nat.le_of_ble_eq_true rfl⟩ ⟨rfl, rfl⟩ (Nat.le_of_ble_eq_true rfl) fl_X10_64 (v := .ref (b + 95)) rfl dX10_isInItem_1 ?_
  refine lv_iload_n (pc := 4) C0.1 C0.2.1 dX10_isInItem_4 rfl (lv_at hl 2 rfl) ?_
  refine xiald (pc := 5) (N := 600) C0 hH 95 ⟨Nat.le_of_ble_eq_true rfl, Nat.le_of_ble_eq_true rfl⟩ ⟨rfl, rfl⟩ (vI (by omega) (by omega)) dX10_isInItem_5 ?_
  refine lv_topi (fun x1 ex1 => ?_)
  refine lv_istore_n (pc := 6) (lv' := [(3, .int x1), (0, .ref (b + 78)), (1, .int x), (2, .int y)]) C0.1 C0.2.1 dX10_isInItem_6 rfl hl (by decide) rfl (fun ls hl => ?_)
  exact L7 1202 x1 _ _ _ (by rw [ex1]; exact hWA.io _) (by have := hWA.ib (Int32.toNatClampNeg x1); omega) hH hS (lv_sub hl [0, 1, 2, 3] rfl)
set_option maxHeartbeats 4000000 in
set_option maxRecDepth 100000 in
theorem m_endOfBlock (l : Launch) (D : va_G) (tA : Nat → ClassId) (b : Nat) (i F : Nat → Nat → Int32) (G : Nat → Nat → Int64) (x y : Int32) (hWA : WA F) (hz : (F 100 0).toInt = -9) (hTL : 0 ≤ (i 78 19).toInt ∧ (i 78 19).toInt ≤ 600) : xMI l yX10_endOfBlock cX10_endOfBlock 5 (some .int) 1 23 D tA b 78 52 i F G [.ref (b + 78), .int x, .int y] (fun r u => u = (i, F, G) ∧ (r.toInt = -9 ∨ (0 ≤ r.toInt ∧ r.toInt < (i 78 19).toInt))) := by
  refine xstart RX10 rfl (by decide) (Nat.le_of_ble_eq_true rfl) ?_
  intro p e s m below meth c ls C0 hr hH hS hl
  have hl : lv_has ls 5 [(0, .ref (b + 78)), (1, .int x), (2, .int y)] := hl
  have rg_x := fb_rng x
  have rg_y := fb_rng y
  have L6 : ∀ (d : Nat) (k q : Int32) (H : Heap) (locs : List Loc) (ls : Array Slot), (0 ≤ k.toInt) → ((i 78 19).toInt - k.toInt ≤ d) → (q.toInt = -9 ∨ (0 ≤ q.toInt ∧ q.toInt < (i 78 19).toInt)) → Hd D tA b 78 52 zz i F G H → va_S (xA b 78 52) s.heap H locs → lv_has ls 5 [(4, .int k), (3, .int q), (0, .ref (b + 78)), (1, .int x), (2, .int y)] → W p l e (xR 1 23) s m ([.ref (b + 78), .int x, .int y] : List Value).toArray below meth c H locs 0 0 (MQ below (va_Qi (fun r u => u = (i, F, G) ∧ (r.toInt = -9 ∨ (0 ≤ r.toInt ∧ r.toInt < (i 78 19).toInt))) (xB D tA b 78 52 zz) (xA b 78 52)) ([.ref (b + 78), .int x, .int y] : List Value).toArray s 0 0 (xA b 78 52)) (F0 m 6 ls []) := by
    intro d
    induction d with
    | zero =>
      intro k q H locs ls h1 h2 h3 hH hS hl
      have rg_k := fb_rng k
      have rg_q := fb_rng q
      refine lv_iload (pc := 6) C0.1 C0.2.1 dX10_endOfBlock_6 (lv_at hl 0 rfl) ?_
      refine lv_aload_n (pc := 8) C0.1 C0.2.1 dX10_endOfBlock_8 rfl (lv_at hl 2 rfl) ?_
      refine xget (pc := 9) C0 hH 78 19 clX10 ⟨Nat.le_of_ble_eq_true rfl, Nat.le_of_ble_eq_true rfl⟩ ⟨rfl, rfl⟩ (Nat.le_of_ble_eq_true rfl) fl_X10_258 (v := .int (i 78 19)) rfl dX10_endOfBlock_9 ?_
      refine lv_icmp_ge (pc := 12) (tgt := 48) C0.1 C0.2.1 dX10_endOfBlock_12 (by decide) (fun _ => ?_) (fun c => absurd (Int32.le_iff_toInt_le.mpr (by omega)) c)
      refine lv_iload_n (pc := 48) C0.1 C0.2.1 dX10_endOfBlock_48 rfl (lv_at hl 1 rfl) ?_
      exact xiret (pc := 49) C0 hr hH hS dX10_endOfBlock_49 ⟨rfl, h3⟩
    | succ d ih6 =>
      intro k q H locs ls h1 h2 h3 hH hS hl
      have rg_k := fb_rng k
      have rg_q := fb_rng q
      refine lv_iload (pc := 6) C0.1 C0.2.1 dX10_endOfBlock_6 (lv_at hl 0 rfl) ?_
      refine lv_aload_n (pc := 8) C0.1 C0.2.1 dX10_endOfBlock_8 rfl (lv_at hl 2 rfl) ?_
      refine xget (pc := 9) C0 hH 78 19 clX10 ⟨Nat.le_of_ble_eq_true rfl, Nat.le_of_ble_eq_true rfl⟩ ⟨rfl, rfl⟩ (Nat.le_of_ble_eq_true rfl) fl_X10_258 (v := .int (i 78 19)) rfl dX10_endOfBlock_9 ?_
      refine lv_icmp_ge (pc := 12) (tgt := 48) C0.1 C0.2.1 dX10_endOfBlock_12 (by decide) (fun c201 => ?_) (fun c201 => ?_)
      · have c201 := Int32.le_iff_toInt_le.mp c201
        refine lv_iload_n (pc := 48) C0.1 C0.2.1 dX10_endOfBlock_48 rfl (lv_at hl 1 rfl) ?_
        exact xiret (pc := 49) C0 hr hH hS dX10_endOfBlock_49 ⟨rfl, h3⟩
      · have c201 : ¬ _ := fun q => c201 (Int32.le_iff_toInt_le.mpr q)
        refine lv_aload_n (pc := 15) C0.1 C0.2.1 dX10_endOfBlock_15 rfl (lv_at hl 2 rfl) ?_
        refine lv_iload_n (pc := 16) C0.1 C0.2.1 dX10_endOfBlock_16 rfl (lv_at hl 3 rfl) ?_
        refine lv_iload (pc := 17) C0.1 C0.2.1 dX10_endOfBlock_17 (lv_at hl 0 rfl) ?_
        refine xcVI (pc := 19) 78 [.int x, .int k] (m_isAround l D tA b i F G x k hWA hz (by omega)) C0 hH hS clX10 rfl ⟨⟨Nat.le_of_ble_eq_true rfl, Nat.le_of_ble_eq_true rfl⟩, rfl, rfl⟩ cw_X10_352 rfl ⟨Nat.le_of_ble_eq_true rfl, Nat.le_of_ble_eq_true rfl⟩ hl.1 rfl (Nat.le_of_ble_eq_true rfl) dX10_endOfBlock_19 ⟨Nat.le_of_ble_eq_true rfl, Nat.le_of_ble_eq_true rfl⟩ (fun r202 ir202 Fr202 Gr202 _ locs hp hH hS => ?_)
        obtain ⟨hu, hpr202⟩ := hp
        cases hu
        refine lv_if_eq (pc := 22) (tgt := 40) C0.1 C0.2.1 dX10_endOfBlock_22 (by decide) (fun c203 => ?_) (fun c203 => ?_)
        · have : Int32.toInt 0 = 0 := rfl
          have c203 := congrArg Int32.toInt c203
          refine lv_iload_n (pc := 40) C0.1 C0.2.1 dX10_endOfBlock_40 rfl (lv_at hl 1 rfl) ?_
          refine lv_istore_n (pc := 41) (lv' := [(3, .int q), (4, .int k), (0, .ref (b + 78)), (1, .int x), (2, .int y)]) C0.1 C0.2.1 dX10_endOfBlock_41 rfl hl (by decide) rfl (fun ls hl => ?_)
          obtain ⟨x204, ex204⟩ : ∃ y_ : Int32, y_ = k + 1 := ⟨_, rfl⟩
          have : Int32.toInt 1 = 1 := rfl
          have hx204 : Int32.toInt x204 = Int32.toInt k + Int32.toInt 1 := by rw [ex204]; exact fb_addI (by omega) (by omega)
          refine lv_iinc (pc := 42) (v := x204) (lv' := [(4, .int x204), (3, .int q), (0, .ref (b + 78)), (1, .int x), (2, .int y)]) C0.1 C0.2.1 dX10_endOfBlock_42 hl (k := 1) rfl (by rw [ex204]; rfl) (by decide) rfl (fun ls hl => ?_)
          refine lv_goto (pc := 45) (tgt := 6) C0.1 C0.2.1 dX10_endOfBlock_45 (by decide) ?_
          exact ih6 x204 q _ _ _ (by omega) (by omega) h3 hH hS (lv_sub hl [0, 1, 2, 3, 4] rfl)
        · have : Int32.toInt 0 = 0 := rfl
          have c203 : ¬ _ := fun q => c203 (Int32.toInt_inj.mp q)
          refine lv_iload_n (pc := 25) C0.1 C0.2.1 dX10_endOfBlock_25 rfl (lv_at hl 4 rfl) ?_
          refine lv_if_ne (pc := 26) (tgt := 35) C0.1 C0.2.1 dX10_endOfBlock_26 (by decide) (fun c205 => ?_) (fun c205 => ?_)
          · have : Int32.toInt 0 = 0 := rfl
            have c205 : ¬ _ := fun q => c205 (Int32.toInt_inj.mp q)
            refine lv_iload (pc := 35) C0.1 C0.2.1 dX10_endOfBlock_35 (lv_at hl 0 rfl) ?_
            refine lv_goto (pc := 37) (tgt := 41) C0.1 C0.2.1 dX10_endOfBlock_37 (by decide) ?_
            refine lv_istore_n (pc := 41) (lv' := [(3, .int k), (4, .int k), (0, .ref (b + 78)), (1, .int x), (2, .int y)]) C0.1 C0.2.1 dX10_endOfBlock_41 rfl hl (by decide) rfl (fun ls hl => ?_)
            obtain ⟨x206, ex206⟩ : ∃ y_ : Int32, y_ = k + 1 := ⟨_, rfl⟩
            have : Int32.toInt 1 = 1 := rfl
            have hx206 : Int32.toInt x206 = Int32.toInt k + Int32.toInt 1 := by rw [ex206]; exact fb_addI (by omega) (by omega)
            refine lv_iinc (pc := 42) (v := x206) (lv' := [(4, .int x206), (3, .int k), (0, .ref (b + 78)), (1, .int x), (2, .int y)]) C0.1 C0.2.1 dX10_endOfBlock_42 hl (k := 1) rfl (by rw [ex206]; rfl) (by decide) rfl (fun ls hl => ?_)
            refine lv_goto (pc := 45) (tgt := 6) C0.1 C0.2.1 dX10_endOfBlock_45 (by decide) ?_
            exact ih6 x206 k _ _ _ (by omega) (by omega) (Or.inr (by omega)) hH hS (lv_sub hl [0, 1, 2, 3, 4] rfl)
          · have : Int32.toInt 0 = 0 := rfl
            have c205 := congrArg Int32.toInt c205
            refine lv_iload_n (pc := 29) C0.1 C0.2.1 dX10_endOfBlock_29 rfl (lv_at hl 1 rfl) ?_
            refine lv_bipush (pc := 30) (v := (-9)) C0.1 C0.2.1 dX10_endOfBlock_30 (by decide) ?_
            refine lv_icmp_ne (pc := 32) (tgt := 40) C0.1 C0.2.1 dX10_endOfBlock_32 (by decide) (fun c207 => ?_) (fun c207 => ?_)
            · have : Int32.toInt (-9) = (-9) := rfl
              have c207 : ¬ _ := fun q => c207 (Int32.toInt_inj.mp q)
              refine lv_iload_n (pc := 40) C0.1 C0.2.1 dX10_endOfBlock_40 rfl (lv_at hl 1 rfl) ?_
              refine lv_istore_n (pc := 41) (lv' := [(3, .int q), (4, .int k), (0, .ref (b + 78)), (1, .int x), (2, .int y)]) C0.1 C0.2.1 dX10_endOfBlock_41 rfl hl (by decide) rfl (fun ls hl => ?_)
              obtain ⟨x208, ex208⟩ : ∃ y_ : Int32, y_ = k + 1 := ⟨_, rfl⟩
              have : Int32.toInt 1 = 1 := rfl
              have hx208 : Int32.toInt x208 = Int32.toInt k + Int32.toInt 1 := by rw [ex208]; exact fb_addI (by omega) (by omega)
              refine lv_iinc (pc := 42) (v := x208) (lv' := [(4, .int x208), (3, .int q), (0, .ref (b + 78)), (1, .int x), (2, .int y)]) C0.1 C0.2.1 dX10_endOfBlock_42 hl (k := 1) rfl (by rw [ex208]; rfl) (by decide) rfl (fun ls hl => ?_)
              refine lv_goto (pc := 45) (tgt := 6) C0.1 C0.2.1 dX10_endOfBlock_45 (by decide) ?_
              exact ih6 x208 q _ _ _ (by omega) (by omega) h3 hH hS (lv_sub hl [0, 1, 2, 3, 4] rfl)
            · have : Int32.toInt (-9) = (-9) := rfl
              have c207 := congrArg Int32.toInt c207
              refine lv_iload (pc := 35) C0.1 C0.2.1 dX10_endOfBlock_35 (lv_at hl 0 rfl) ?_
              refine lv_goto (pc := 37) (tgt := 41) C0.1 C0.2.1 dX10_endOfBlock_37 (by decide) ?_
              refine lv_istore_n (pc := 41) (lv' := [(3, .int k), (4, .int k), (0, .ref (b + 78)), (1, .int x), (2, .int y)]) C0.1 C0.2.1 dX10_endOfBlock_41 rfl hl (by decide) rfl (fun ls hl => ?_)
              obtain ⟨x209, ex209⟩ : ∃ y_ : Int32, y_ = k + 1 := ⟨_, rfl⟩
              have : Int32.toInt 1 = 1 := rfl
              have hx209 : Int32.toInt x209 = Int32.toInt k + Int32.toInt 1 := by rw [ex209]; exact fb_addI (by omega) (by omega)
              refine lv_iinc (pc := 42) (v := x209) (lv' := [(4, .int x209), (3, .int k), (0, .ref (b + 78)), (1, .int x), (2, .int y)]) C0.1 C0.2.1 dX10_endOfBlock_42 hl (k := 1) rfl (by rw [ex209]; rfl) (by decide) rfl (fun ls hl => ?_)
              refine lv_goto (pc := 45) (tgt := 6) C0.1 C0.2.1 dX10_endOfBlock_45 (by decide) ?_
              exact ih6 x209 k _ _ _ (by omega) (by omega) (Or.inr (by omega)) hH hS (lv_sub hl [0, 1, 2, 3, 4] rfl)
  refine lv_bipush (pc := 0) (v := (-9)) C0.1 C0.2.1 dX10_endOfBlock_0 (by decide) ?_
  refine lv_istore_n (pc := 2) (lv' := [(3, .int (-9)), (0, .ref (b + 78)), (1, .int x), (2, .int y)]) C0.1 C0.2.1 dX10_endOfBlock_2 rfl hl (by decide) rfl (fun ls hl => ?_)
  refine lv_iconst (pc := 3) (v := 0) C0.1 C0.2.1 dX10_endOfBlock_3 (by decide) ?_
  refine lv_istore (pc := 4) (lv' := [(4, .int 0), (3, .int (-9)), (0, .ref (b + 78)), (1, .int x), (2, .int y)]) C0.1 C0.2.1 dX10_endOfBlock_4 hl (by decide) rfl (fun ls hl => ?_)
  exact L6 600 0 (-9) _ _ _ (by decide) (by have : Int32.toInt 0 = 0 := rfl; omega) (Or.inl rfl) hH hS (lv_sub hl [0, 1, 2, 3, 4] rfl)
set_option maxHeartbeats 4000000 in
set_option maxRecDepth 100000 in
theorem m_endOfItem (l : Launch) (D : va_G) (tA : Nat → ClassId) (b : Nat) (i F : Nat → Nat → Int32) (G : Nat → Nat → Int64) (x y : Int32) (hWA : WA F) (hz : (F 100 0).toInt = -9) (hTL : 0 ≤ (i 78 19).toInt ∧ (i 78 19).toInt ≤ 600) : xMI l yX10_endOfItem cX10_endOfItem 5 (some .int) 1 23 D tA b 78 52 i F G [.ref (b + 78), .int x, .int y] (fun r u => u = (i, F, G) ∧ (r.toInt = -9 ∨ (0 ≤ r.toInt ∧ r.toInt < (i 78 19).toInt))) := by
  refine xstart RX10 rfl (by decide) (Nat.le_of_ble_eq_true rfl) ?_
  intro p e s m below meth c ls C0 hr hH hS hl
  have hl : lv_has ls 5 [(0, .ref (b + 78)), (1, .int x), (2, .int y)] := hl
  have rg_x := fb_rng x
  have rg_y := fb_rng y
  have L6 : ∀ (d : Nat) (k q : Int32) (H : Heap) (locs : List Loc) (ls : Array Slot), (0 ≤ k.toInt) → ((i 78 19).toInt - k.toInt ≤ d) → (q.toInt = -9 ∨ (0 ≤ q.toInt ∧ q.toInt < (i 78 19).toInt)) → Hd D tA b 78 52 zz i F G H → va_S (xA b 78 52) s.heap H locs → lv_has ls 5 [(4, .int k), (3, .int q), (0, .ref (b + 78)), (1, .int x), (2, .int y)] → W p l e (xR 1 23) s m ([.ref (b + 78), .int x, .int y] : List Value).toArray below meth c H locs 0 0 (MQ below (va_Qi (fun r u => u = (i, F, G) ∧ (r.toInt = -9 ∨ (0 ≤ r.toInt ∧ r.toInt < (i 78 19).toInt))) (xB D tA b 78 52 zz) (xA b 78 52)) ([.ref (b + 78), .int x, .int y] : List Value).toArray s 0 0 (xA b 78 52)) (F0 m 6 ls []) := by
    intro d
    induction d with
    | zero =>
      intro k q H locs ls h1 h2 h3 hH hS hl
      have rg_k := fb_rng k
      have rg_q := fb_rng q
      refine lv_iload (pc := 6) C0.1 C0.2.1 dX10_endOfItem_6 (lv_at hl 0 rfl) ?_
      refine lv_aload_n (pc := 8) C0.1 C0.2.1 dX10_endOfItem_8 rfl (lv_at hl 2 rfl) ?_
      refine xget (pc := 9) C0 hH 78 19 clX10 ⟨Nat.le_of_ble_eq_true rfl, Nat.le_of_ble_eq_true rfl⟩ ⟨rfl, rfl⟩ (Nat.le_of_ble_eq_true rfl) fl_X10_258 (v := .int (i 78 19)) rfl dX10_endOfItem_9 ?_
      refine lv_icmp_ge (pc := 12) (tgt := 48) C0.1 C0.2.1 dX10_endOfItem_12 (by decide) (fun _ => ?_) (fun c => absurd (Int32.le_iff_toInt_le.mpr (by omega)) c)
      refine lv_iload_n (pc := 48) C0.1 C0.2.1 dX10_endOfItem_48 rfl (lv_at hl 1 rfl) ?_
      exact xiret (pc := 49) C0 hr hH hS dX10_endOfItem_49 ⟨rfl, h3⟩
    | succ d ih6 =>
      intro k q H locs ls h1 h2 h3 hH hS hl
      have rg_k := fb_rng k
      have rg_q := fb_rng q
      refine lv_iload (pc := 6) C0.1 C0.2.1 dX10_endOfItem_6 (lv_at hl 0 rfl) ?_
      refine lv_aload_n (pc := 8) C0.1 C0.2.1 dX10_endOfItem_8 rfl (lv_at hl 2 rfl) ?_
      refine xget (pc := 9) C0 hH 78 19 clX10 ⟨Nat.le_of_ble_eq_true rfl, Nat.le_of_ble_eq_true rfl⟩ ⟨rfl, rfl⟩ (Nat.le_of_ble_eq_true rfl) fl_X10_258 (v := .int (i 78 19)) rfl dX10_endOfItem_9 ?_
      refine lv_icmp_ge (pc := 12) (tgt := 48) C0.1 C0.2.1 dX10_endOfItem_12 (by decide) (fun c201 => ?_) (fun c201 => ?_)
      · have c201 := Int32.le_iff_toInt_le.mp c201
        refine lv_iload_n (pc := 48) C0.1 C0.2.1 dX10_endOfItem_48 rfl (lv_at hl 1 rfl) ?_
        exact xiret (pc := 49) C0 hr hH hS dX10_endOfItem_49 ⟨rfl, h3⟩
      · have c201 : ¬ _ := fun q => c201 (Int32.le_iff_toInt_le.mpr q)
        refine lv_aload_n (pc := 15) C0.1 C0.2.1 dX10_endOfItem_15 rfl (lv_at hl 2 rfl) ?_
        refine lv_iload_n (pc := 16) C0.1 C0.2.1 dX10_endOfItem_16 rfl (lv_at hl 3 rfl) ?_
        refine lv_iload (pc := 17) C0.1 C0.2.1 dX10_endOfItem_17 (lv_at hl 0 rfl) ?_
        refine xcVI (pc := 19) 78 [.int x, .int k] (m_isInItem l D tA b i F G x k hWA hz (by omega)) C0 hH hS clX10 rfl ⟨⟨Nat.le_of_ble_eq_true rfl, Nat.le_of_ble_eq_true rfl⟩, rfl, rfl⟩ cw_X10_355 rfl ⟨Nat.le_of_ble_eq_true rfl, Nat.le_of_ble_eq_true rfl⟩ hl.1 rfl (Nat.le_of_ble_eq_true rfl) dX10_endOfItem_19 ⟨Nat.le_of_ble_eq_true rfl, Nat.le_of_ble_eq_true rfl⟩ (fun r202 ir202 Fr202 Gr202 _ locs hp hH hS => ?_)
        obtain ⟨hu, hpr202⟩ := hp
        cases hu
        refine lv_if_eq (pc := 22) (tgt := 40) C0.1 C0.2.1 dX10_endOfItem_22 (by decide) (fun c203 => ?_) (fun c203 => ?_)
        · have : Int32.toInt 0 = 0 := rfl
          have c203 := congrArg Int32.toInt c203
          refine lv_iload_n (pc := 40) C0.1 C0.2.1 dX10_endOfItem_40 rfl (lv_at hl 1 rfl) ?_
          refine lv_istore_n (pc := 41) (lv' := [(3, .int q), (4, .int k), (0, .ref (b + 78)), (1, .int x), (2, .int y)]) C0.1 C0.2.1 dX10_endOfItem_41 rfl hl (by decide) rfl (fun ls hl => ?_)
          obtain ⟨x204, ex204⟩ : ∃ y_ : Int32, y_ = k + 1 := ⟨_, rfl⟩
          have : Int32.toInt 1 = 1 := rfl
          have hx204 : Int32.toInt x204 = Int32.toInt k + Int32.toInt 1 := by rw [ex204]; exact fb_addI (by omega) (by omega)
          refine lv_iinc (pc := 42) (v := x204) (lv' := [(4, .int x204), (3, .int q), (0, .ref (b + 78)), (1, .int x), (2, .int y)]) C0.1 C0.2.1 dX10_endOfItem_42 hl (k := 1) rfl (by rw [ex204]; rfl) (by decide) rfl (fun ls hl => ?_)
          refine lv_goto (pc := 45) (tgt := 6) C0.1 C0.2.1 dX10_endOfItem_45 (by decide) ?_
          exact ih6 x204 q _ _ _ (by omega) (by omega) h3 hH hS (lv_sub hl [0, 1, 2, 3, 4] rfl)
        · have : Int32.toInt 0 = 0 := rfl
          have c203 : ¬ _ := fun q => c203 (Int32.toInt_inj.mp q)
          refine lv_iload_n (pc := 25) C0.1 C0.2.1 dX10_endOfItem_25 rfl (lv_at hl 4 rfl) ?_
          refine lv_if_ne (pc := 26) (tgt := 35) C0.1 C0.2.1 dX10_endOfItem_26 (by decide) (fun c205 => ?_) (fun c205 => ?_)
          · have : Int32.toInt 0 = 0 := rfl
            have c205 : ¬ _ := fun q => c205 (Int32.toInt_inj.mp q)
            refine lv_iload (pc := 35) C0.1 C0.2.1 dX10_endOfItem_35 (lv_at hl 0 rfl) ?_
            refine lv_goto (pc := 37) (tgt := 41) C0.1 C0.2.1 dX10_endOfItem_37 (by decide) ?_
            refine lv_istore_n (pc := 41) (lv' := [(3, .int k), (4, .int k), (0, .ref (b + 78)), (1, .int x), (2, .int y)]) C0.1 C0.2.1 dX10_endOfItem_41 rfl hl (by decide) rfl (fun ls hl => ?_)
            obtain ⟨x206, ex206⟩ : ∃ y_ : Int32, y_ = k + 1 := ⟨_, rfl⟩
            have : Int32.toInt 1 = 1 := rfl
            have hx206 : Int32.toInt x206 = Int32.toInt k + Int32.toInt 1 := by rw [ex206]; exact fb_addI (by omega) (by omega)
            refine lv_iinc (pc := 42) (v := x206) (lv' := [(4, .int x206), (3, .int k), (0, .ref (b + 78)), (1, .int x), (2, .int y)]) C0.1 C0.2.1 dX10_endOfItem_42 hl (k := 1) rfl (by rw [ex206]; rfl) (by decide) rfl (fun ls hl => ?_)
            refine lv_goto (pc := 45) (tgt := 6) C0.1 C0.2.1 dX10_endOfItem_45 (by decide) ?_
            exact ih6 x206 k _ _ _ (by omega) (by omega) (Or.inr (by omega)) hH hS (lv_sub hl [0, 1, 2, 3, 4] rfl)
          · have : Int32.toInt 0 = 0 := rfl
            have c205 := congrArg Int32.toInt c205
            refine lv_iload_n (pc := 29) C0.1 C0.2.1 dX10_endOfItem_29 rfl (lv_at hl 1 rfl) ?_
            refine lv_bipush (pc := 30) (v := (-9)) C0.1 C0.2.1 dX10_endOfItem_30 (by decide) ?_
            refine lv_icmp_ne (pc := 32) (tgt := 40) C0.1 C0.2.1 dX10_endOfItem_32 (by decide) (fun c207 => ?_) (fun c207 => ?_)
            · have : Int32.toInt (-9) = (-9) := rfl
              have c207 : ¬ _ := fun q => c207 (Int32.toInt_inj.mp q)
              refine lv_iload_n (pc := 40) C0.1 C0.2.1 dX10_endOfItem_40 rfl (lv_at hl 1 rfl) ?_
              refine lv_istore_n (pc := 41) (lv' := [(3, .int q), (4, .int k), (0, .ref (b + 78)), (1, .int x), (2, .int y)]) C0.1 C0.2.1 dX10_endOfItem_41 rfl hl (by decide) rfl (fun ls hl => ?_)
              obtain ⟨x208, ex208⟩ : ∃ y_ : Int32, y_ = k + 1 := ⟨_, rfl⟩
              have : Int32.toInt 1 = 1 := rfl
              have hx208 : Int32.toInt x208 = Int32.toInt k + Int32.toInt 1 := by rw [ex208]; exact fb_addI (by omega) (by omega)
              refine lv_iinc (pc := 42) (v := x208) (lv' := [(4, .int x208), (3, .int q), (0, .ref (b + 78)), (1, .int x), (2, .int y)]) C0.1 C0.2.1 dX10_endOfItem_42 hl (k := 1) rfl (by rw [ex208]; rfl) (by decide) rfl (fun ls hl => ?_)
              refine lv_goto (pc := 45) (tgt := 6) C0.1 C0.2.1 dX10_endOfItem_45 (by decide) ?_
              exact ih6 x208 q _ _ _ (by omega) (by omega) h3 hH hS (lv_sub hl [0, 1, 2, 3, 4] rfl)
            · have : Int32.toInt (-9) = (-9) := rfl
              have c207 := congrArg Int32.toInt c207
              refine lv_iload (pc := 35) C0.1 C0.2.1 dX10_endOfItem_35 (lv_at hl 0 rfl) ?_
              refine lv_goto (pc := 37) (tgt := 41) C0.1 C0.2.1 dX10_endOfItem_37 (by decide) ?_
              refine lv_istore_n (pc := 41) (lv' := [(3, .int k), (4, .int k), (0, .ref (b + 78)), (1, .int x), (2, .int y)]) C0.1 C0.2.1 dX10_endOfItem_41 rfl hl (by decide) rfl (fun ls hl => ?_)
              obtain ⟨x209, ex209⟩ : ∃ y_ : Int32, y_ = k + 1 := ⟨_, rfl⟩
              have : Int32.toInt 1 = 1 := rfl
              have hx209 : Int32.toInt x209 = Int32.toInt k + Int32.toInt 1 := by rw [ex209]; exact fb_addI (by omega) (by omega)
              refine lv_iinc (pc := 42) (v := x209) (lv' := [(4, .int x209), (3, .int k), (0, .ref (b + 78)), (1, .int x), (2, .int y)]) C0.1 C0.2.1 dX10_endOfItem_42 hl (k := 1) rfl (by rw [ex209]; rfl) (by decide) rfl (fun ls hl => ?_)
              refine lv_goto (pc := 45) (tgt := 6) C0.1 C0.2.1 dX10_endOfItem_45 (by decide) ?_
              exact ih6 x209 k _ _ _ (by omega) (by omega) (Or.inr (by omega)) hH hS (lv_sub hl [0, 1, 2, 3, 4] rfl)
  refine lv_bipush (pc := 0) (v := (-9)) C0.1 C0.2.1 dX10_endOfItem_0 (by decide) ?_
  refine lv_istore_n (pc := 2) (lv' := [(3, .int (-9)), (0, .ref (b + 78)), (1, .int x), (2, .int y)]) C0.1 C0.2.1 dX10_endOfItem_2 rfl hl (by decide) rfl (fun ls hl => ?_)
  refine lv_iconst (pc := 3) (v := 0) C0.1 C0.2.1 dX10_endOfItem_3 (by decide) ?_
  refine lv_istore (pc := 4) (lv' := [(4, .int 0), (3, .int (-9)), (0, .ref (b + 78)), (1, .int x), (2, .int y)]) C0.1 C0.2.1 dX10_endOfItem_4 hl (by decide) rfl (fun ls hl => ?_)
  exact L6 600 0 (-9) _ _ _ (by decide) (by have : Int32.toInt 0 = 0 := rfl; omega) (Or.inl rfl) hH hS (lv_sub hl [0, 1, 2, 3, 4] rfl)
