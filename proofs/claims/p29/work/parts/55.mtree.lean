set_option maxRecDepth 20000 in
theorem fl_X10_290 : Cond.fieldLink RX10 290 (TX10 47).1 (TX10 47).2.1 (TX10 47).2.2.1 ∈ WALL := wm 1071 (by decide +kernel) rfl
set_option maxRecDepth 20000 in
theorem fl_X10_287 : Cond.fieldLink RX10 287 (TX10 40).1 (TX10 40).2.1 (TX10 40).2.2.1 ∈ WALL := wm 1064 (by decide +kernel) rfl
theorem dX10_hang_0 : decode cX10_hang 0 = .ok (.aload_n 0, 1) := by decide +kernel
theorem dX10_hang_1 : decode cX10_hang 1 = .ok (.getfield 290, 3) := by decide +kernel
theorem dX10_hang_4 : decode cX10_hang 4 = .ok (.istore_n 3, 1) := by decide +kernel
theorem dX10_hang_5 : decode cX10_hang 5 = .ok (.aload_n 0, 1) := by decide +kernel
theorem dX10_hang_6 : decode cX10_hang 6 = .ok (.dup, 1) := by decide +kernel
theorem dX10_hang_7 : decode cX10_hang 7 = .ok (.getfield 290, 3) := by decide +kernel
theorem dX10_hang_10 : decode cX10_hang 10 = .ok (.iconst 1, 1) := by decide +kernel
theorem dX10_hang_11 : decode cX10_hang 11 = .ok (.iadd, 1) := by decide +kernel
theorem dX10_hang_12 : decode cX10_hang 12 = .ok (.putfield 290, 3) := by decide +kernel
theorem dX10_hang_15 : decode cX10_hang 15 = .ok (.aload_n 0, 1) := by decide +kernel
theorem dX10_hang_16 : decode cX10_hang 16 = .ok (.getfield 112, 3) := by decide +kernel
theorem dX10_hang_19 : decode cX10_hang 19 = .ok (.iload_n 3, 1) := by decide +kernel
theorem dX10_hang_20 : decode cX10_hang 20 = .ok (.iload_n 2, 1) := by decide +kernel
theorem dX10_hang_21 : decode cX10_hang 21 = .ok (.iastore, 1) := by decide +kernel
theorem dX10_hang_22 : decode cX10_hang 22 = .ok (.aload_n 0, 1) := by decide +kernel
theorem dX10_hang_23 : decode cX10_hang 23 = .ok (.getfield 115, 3) := by decide +kernel
theorem dX10_hang_26 : decode cX10_hang 26 = .ok (.iload_n 3, 1) := by decide +kernel
theorem dX10_hang_27 : decode cX10_hang 27 = .ok (.bipush (-9), 2) := by decide +kernel
theorem dX10_hang_29 : decode cX10_hang 29 = .ok (.iastore, 1) := by decide +kernel
theorem dX10_hang_30 : decode cX10_hang 30 = .ok (.aload_n 0, 1) := by decide +kernel
theorem dX10_hang_31 : decode cX10_hang 31 = .ok (.getfield 109, 3) := by decide +kernel
theorem dX10_hang_34 : decode cX10_hang 34 = .ok (.iload_n 1, 1) := by decide +kernel
theorem dX10_hang_35 : decode cX10_hang 35 = .ok (.iaload, 1) := by decide +kernel
theorem dX10_hang_36 : decode cX10_hang 36 = .ok (.bipush (-9), 2) := by decide +kernel
theorem dX10_hang_38 : decode cX10_hang 38 = .ok (.if_icmp .ne 13, 3) := by decide +kernel
theorem dX10_hang_51 : decode cX10_hang 51 = .ok (.aload_n 0, 1) := by decide +kernel
theorem dX10_hang_52 : decode cX10_hang 52 = .ok (.getfield 115, 3) := by decide +kernel
theorem dX10_hang_55 : decode cX10_hang 55 = .ok (.aload_n 0, 1) := by decide +kernel
theorem dX10_hang_56 : decode cX10_hang 56 = .ok (.getfield 109, 3) := by decide +kernel
theorem dX10_hang_59 : decode cX10_hang 59 = .ok (.iload_n 1, 1) := by decide +kernel
theorem dX10_hang_60 : decode cX10_hang 60 = .ok (.iaload, 1) := by decide +kernel
theorem dX10_hang_61 : decode cX10_hang 61 = .ok (.iload_n 3, 1) := by decide +kernel
theorem dX10_hang_62 : decode cX10_hang 62 = .ok (.iastore, 1) := by decide +kernel
theorem dX10_hang_63 : decode cX10_hang 63 = .ok (.aload_n 0, 1) := by decide +kernel
theorem dX10_hang_64 : decode cX10_hang 64 = .ok (.getfield 109, 3) := by decide +kernel
theorem dX10_hang_67 : decode cX10_hang 67 = .ok (.iload_n 1, 1) := by decide +kernel
theorem dX10_hang_68 : decode cX10_hang 68 = .ok (.iload_n 3, 1) := by decide +kernel
theorem dX10_hang_69 : decode cX10_hang 69 = .ok (.iastore, 1) := by decide +kernel
theorem dX10_hang_70 : decode cX10_hang 70 = .ok (.aload_n 0, 1) := by decide +kernel
theorem dX10_hang_71 : decode cX10_hang 71 = .ok (.getfield 103, 3) := by decide +kernel
theorem dX10_hang_74 : decode cX10_hang 74 = .ok (.iload_n 1, 1) := by decide +kernel
theorem dX10_hang_75 : decode cX10_hang 75 = .ok (.dup2, 1) := by decide +kernel
theorem dX10_hang_76 : decode cX10_hang 76 = .ok (.iaload, 1) := by decide +kernel
theorem dX10_hang_77 : decode cX10_hang 77 = .ok (.iconst 1, 1) := by decide +kernel
theorem dX10_hang_78 : decode cX10_hang 78 = .ok (.iadd, 1) := by decide +kernel
theorem dX10_hang_79 : decode cX10_hang 79 = .ok (.iastore, 1) := by decide +kernel
theorem dX10_hang_80 : decode cX10_hang 80 = .ok (.return_, 1) := by decide +kernel
theorem dX10_hang_41 : decode cX10_hang 41 = .ok (.aload_n 0, 1) := by decide +kernel
theorem dX10_hang_42 : decode cX10_hang 42 = .ok (.getfield 106, 3) := by decide +kernel
theorem dX10_hang_45 : decode cX10_hang 45 = .ok (.iload_n 1, 1) := by decide +kernel
theorem dX10_hang_46 : decode cX10_hang 46 = .ok (.iload_n 3, 1) := by decide +kernel
theorem dX10_hang_47 : decode cX10_hang 47 = .ok (.iastore, 1) := by decide +kernel
theorem dX10_hang_48 : decode cX10_hang 48 = .ok (.goto 15, 3) := by decide +kernel
theorem dX10_newItem_0 : decode cX10_newItem 0 = .ok (.aload_n 0, 1) := by decide +kernel
theorem dX10_newItem_1 : decode cX10_newItem 1 = .ok (.getfield 287, 3) := by decide +kernel
theorem dX10_newItem_4 : decode cX10_newItem 4 = .ok (.istore_n 2, 1) := by decide +kernel
theorem dX10_newItem_5 : decode cX10_newItem 5 = .ok (.aload_n 0, 1) := by decide +kernel
theorem dX10_newItem_6 : decode cX10_newItem 6 = .ok (.dup, 1) := by decide +kernel
theorem dX10_newItem_7 : decode cX10_newItem 7 = .ok (.getfield 287, 3) := by decide +kernel
theorem dX10_newItem_10 : decode cX10_newItem 10 = .ok (.iconst 1, 1) := by decide +kernel
theorem dX10_newItem_11 : decode cX10_newItem 11 = .ok (.iadd, 1) := by decide +kernel
theorem dX10_newItem_12 : decode cX10_newItem 12 = .ok (.putfield 287, 3) := by decide +kernel
theorem dX10_newItem_15 : decode cX10_newItem 15 = .ok (.aload_n 0, 1) := by decide +kernel
theorem dX10_newItem_16 : decode cX10_newItem 16 = .ok (.getfield 94, 3) := by decide +kernel
theorem dX10_newItem_19 : decode cX10_newItem 19 = .ok (.iload_n 2, 1) := by decide +kernel
theorem dX10_newItem_20 : decode cX10_newItem 20 = .ok (.iload_n 1, 1) := by decide +kernel
theorem dX10_newItem_21 : decode cX10_newItem 21 = .ok (.iastore, 1) := by decide +kernel
theorem dX10_newItem_22 : decode cX10_newItem 22 = .ok (.aload_n 0, 1) := by decide +kernel
theorem dX10_newItem_23 : decode cX10_newItem 23 = .ok (.getfield 97, 3) := by decide +kernel
theorem dX10_newItem_26 : decode cX10_newItem 26 = .ok (.iload_n 2, 1) := by decide +kernel
theorem dX10_newItem_27 : decode cX10_newItem 27 = .ok (.aload_n 0, 1) := by decide +kernel
theorem dX10_newItem_28 : decode cX10_newItem 28 = .ok (.getfield 85, 3) := by decide +kernel
theorem dX10_newItem_31 : decode cX10_newItem 31 = .ok (.iload_n 1, 1) := by decide +kernel
theorem dX10_newItem_32 : decode cX10_newItem 32 = .ok (.iaload, 1) := by decide +kernel
theorem dX10_newItem_33 : decode cX10_newItem 33 = .ok (.iastore, 1) := by decide +kernel
theorem dX10_newItem_34 : decode cX10_newItem 34 = .ok (.aload_n 0, 1) := by decide +kernel
theorem dX10_newItem_35 : decode cX10_newItem 35 = .ok (.getfield 100, 3) := by decide +kernel
theorem dX10_newItem_38 : decode cX10_newItem 38 = .ok (.iload_n 2, 1) := by decide +kernel
theorem dX10_newItem_39 : decode cX10_newItem 39 = .ok (.bipush (-9), 2) := by decide +kernel
theorem dX10_newItem_41 : decode cX10_newItem 41 = .ok (.iastore, 1) := by decide +kernel
theorem dX10_newItem_42 : decode cX10_newItem 42 = .ok (.aload_n 0, 1) := by decide +kernel
theorem dX10_newItem_43 : decode cX10_newItem 43 = .ok (.getfield 103, 3) := by decide +kernel
theorem dX10_newItem_46 : decode cX10_newItem 46 = .ok (.iload_n 2, 1) := by decide +kernel
theorem dX10_newItem_47 : decode cX10_newItem 47 = .ok (.iconst 0, 1) := by decide +kernel
theorem dX10_newItem_48 : decode cX10_newItem 48 = .ok (.iastore, 1) := by decide +kernel
theorem dX10_newItem_49 : decode cX10_newItem 49 = .ok (.aload_n 0, 1) := by decide +kernel
theorem dX10_newItem_50 : decode cX10_newItem 50 = .ok (.getfield 106, 3) := by decide +kernel
theorem dX10_newItem_53 : decode cX10_newItem 53 = .ok (.iload_n 2, 1) := by decide +kernel
theorem dX10_newItem_54 : decode cX10_newItem 54 = .ok (.bipush (-9), 2) := by decide +kernel
theorem dX10_newItem_56 : decode cX10_newItem 56 = .ok (.iastore, 1) := by decide +kernel
theorem dX10_newItem_57 : decode cX10_newItem 57 = .ok (.aload_n 0, 1) := by decide +kernel
theorem dX10_newItem_58 : decode cX10_newItem 58 = .ok (.getfield 109, 3) := by decide +kernel
theorem dX10_newItem_61 : decode cX10_newItem 61 = .ok (.iload_n 2, 1) := by decide +kernel
theorem dX10_newItem_62 : decode cX10_newItem 62 = .ok (.bipush (-9), 2) := by decide +kernel
theorem dX10_newItem_64 : decode cX10_newItem 64 = .ok (.iastore, 1) := by decide +kernel
theorem dX10_newItem_65 : decode cX10_newItem 65 = .ok (.aload_n 0, 1) := by decide +kernel
theorem dX10_newItem_66 : decode cX10_newItem 66 = .ok (.getfield 91, 3) := by decide +kernel
theorem dX10_newItem_69 : decode cX10_newItem 69 = .ok (.iload_n 1, 1) := by decide +kernel
theorem dX10_newItem_70 : decode cX10_newItem 70 = .ok (.iaload, 1) := by decide +kernel
theorem dX10_newItem_71 : decode cX10_newItem 71 = .ok (.bipush (-9), 2) := by decide +kernel
theorem dX10_newItem_73 : decode cX10_newItem 73 = .ok (.if_icmp .ne 13, 3) := by decide +kernel
theorem dX10_newItem_86 : decode cX10_newItem 86 = .ok (.aload_n 0, 1) := by decide +kernel
theorem dX10_newItem_87 : decode cX10_newItem 87 = .ok (.getfield 100, 3) := by decide +kernel
theorem dX10_newItem_90 : decode cX10_newItem 90 = .ok (.aload_n 0, 1) := by decide +kernel
theorem dX10_newItem_91 : decode cX10_newItem 91 = .ok (.getfield 91, 3) := by decide +kernel
theorem dX10_newItem_94 : decode cX10_newItem 94 = .ok (.iload_n 1, 1) := by decide +kernel
theorem dX10_newItem_95 : decode cX10_newItem 95 = .ok (.iaload, 1) := by decide +kernel
theorem dX10_newItem_96 : decode cX10_newItem 96 = .ok (.iload_n 2, 1) := by decide +kernel
theorem dX10_newItem_97 : decode cX10_newItem 97 = .ok (.iastore, 1) := by decide +kernel
theorem dX10_newItem_98 : decode cX10_newItem 98 = .ok (.aload_n 0, 1) := by decide +kernel
theorem dX10_newItem_99 : decode cX10_newItem 99 = .ok (.getfield 91, 3) := by decide +kernel
theorem dX10_newItem_102 : decode cX10_newItem 102 = .ok (.iload_n 1, 1) := by decide +kernel
theorem dX10_newItem_103 : decode cX10_newItem 103 = .ok (.iload_n 2, 1) := by decide +kernel
theorem dX10_newItem_104 : decode cX10_newItem 104 = .ok (.iastore, 1) := by decide +kernel
theorem dX10_newItem_105 : decode cX10_newItem 105 = .ok (.aload_n 0, 1) := by decide +kernel
theorem dX10_newItem_106 : decode cX10_newItem 106 = .ok (.getfield 85, 3) := by decide +kernel
theorem dX10_newItem_109 : decode cX10_newItem 109 = .ok (.iload_n 1, 1) := by decide +kernel
theorem dX10_newItem_110 : decode cX10_newItem 110 = .ok (.dup2, 1) := by decide +kernel
theorem dX10_newItem_111 : decode cX10_newItem 111 = .ok (.iaload, 1) := by decide +kernel
theorem dX10_newItem_112 : decode cX10_newItem 112 = .ok (.iconst 1, 1) := by decide +kernel
theorem dX10_newItem_113 : decode cX10_newItem 113 = .ok (.iadd, 1) := by decide +kernel
theorem dX10_newItem_114 : decode cX10_newItem 114 = .ok (.iastore, 1) := by decide +kernel
theorem dX10_newItem_115 : decode cX10_newItem 115 = .ok (.return_, 1) := by decide +kernel
theorem dX10_newItem_76 : decode cX10_newItem 76 = .ok (.aload_n 0, 1) := by decide +kernel
theorem dX10_newItem_77 : decode cX10_newItem 77 = .ok (.getfield 88, 3) := by decide +kernel
theorem dX10_newItem_80 : decode cX10_newItem 80 = .ok (.iload_n 1, 1) := by decide +kernel
theorem dX10_newItem_81 : decode cX10_newItem 81 = .ok (.iload_n 2, 1) := by decide +kernel
theorem dX10_newItem_82 : decode cX10_newItem 82 = .ok (.iastore, 1) := by decide +kernel
theorem dX10_newItem_83 : decode cX10_newItem 83 = .ok (.goto 15, 3) := by decide +kernel
set_option maxHeartbeats 4000000 in
set_option maxRecDepth 100000 in
theorem m_hang (l : Launch) (D : va_G) (tA : Nat → ClassId) (b : Nat) (i F : Nat → Nat → Int32) (G : Nat → Nat → Int64) (x y : Int32) (hT : TMm i F) (hx : 0 ≤ x.toInt ∧ x.toInt < (i 78 40).toInt) (hpm : (i 78 47).toInt < 1802) (hyv : (0 ≤ y.toInt ∧ y.toInt < 600) ∨ (y.toInt ≤ -101 ∧ -100 - y.toInt < (i 78 32).toInt ∧ (F 105 (cl x)).toInt < -100 - y.toInt ∧ ∀ p : Nat, (p : Int) < (i 78 47).toInt → ¬ F 111 p = y)) : xMV l yX10_hang cX10_hang 4 none 0 0 D tA b 78 52 i F G [.ref (b + 78), .int x, .int y] (fun u => RO [47] [108, 109, 110, 111, 112] i F G u ∧ TMm u.1 u.2.1 ∧ (u.1 78 47).toInt = (i 78 47).toInt + 1) := by
  refine xstart RX10 rfl (by decide) (Nat.le_of_ble_eq_true rfl) ?_
  intro p e s m below meth c ls C0 hr hH hS hl
  have hl : lv_has ls 4 [(0, .ref (b + 78)), (1, .int x), (2, .int y)] := hl
  have rg_x := fb_rng x
  have rg_y := fb_rng y
  have hTL := TMm.lin hT
  have hQx := TMm.qt hT hx
  refine lv_aload_n (pc := 0) C0.1 C0.2.1 dX10_hang_0 rfl (lv_at hl 0 rfl) ?_
  refine xget (pc := 1) C0 hH 78 47 clX10 ⟨Nat.le_of_ble_eq_true rfl, Nat.le_of_ble_eq_true rfl⟩ ⟨rfl, rfl⟩ (Nat.le_of_ble_eq_true rfl) fl_X10_290 (v := .int (i 78 47)) rfl dX10_hang_1 ?_
  refine lv_topi (fun x1 ex1 => ?_)
  refine lv_istore_n (pc := 4) (lv' := [(3, .int x1), (0, .ref (b + 78)), (1, .int x), (2, .int y)]) C0.1 C0.2.1 dX10_hang_4 rfl hl (by decide) rfl (fun ls hl => ?_)
  have e1I := congrArg Int32.toInt ex1
  refine lv_aload_n (pc := 5) C0.1 C0.2.1 dX10_hang_5 rfl (lv_at hl 1 rfl) ?_
  refine lv_dup (pc := 6) C0.1 C0.2.1 dX10_hang_6 rfl ?_
  refine xget (pc := 7) C0 hH 78 47 clX10 ⟨Nat.le_of_ble_eq_true rfl, Nat.le_of_ble_eq_true rfl⟩ ⟨rfl, rfl⟩ (Nat.le_of_ble_eq_true rfl) fl_X10_290 (v := .int (i 78 47)) rfl dX10_hang_7 ?_
  refine lv_iconst (pc := 10) (v := 1) C0.1 C0.2.1 dX10_hang_10 (by decide) ?_
  have : Int32.toInt 1 = 1 := rfl
  refine lv_iadd (pc := 11) C0.1 C0.2.1 dX10_hang_11 ?_
  refine lv_topi (fun x2 ex2 => ?_)
  have hx2 : Int32.toInt x2 = Int32.toInt (i 78 47) + Int32.toInt 1 := by rw [ex2]; exact fb_addI (by omega) (by omega)
  refine xputI (pc := 12) C0 (Nat.le_of_ble_eq_true rfl) hH hS 78 47 clX10 ⟨Nat.le_of_ble_eq_true rfl, Nat.le_of_ble_eq_true rfl⟩ ⟨rfl, rfl⟩ ⟨Nat.le_of_ble_eq_true rfl, rfl, rfl⟩ fl_X10_290 (x := x2) ⟨rfl, rfl⟩ dX10_hang_12 (fun _ locs hH hS _ => ?_)
  have hH : Hd D tA b 78 52 zz (up2 i 78 47 x2) F G _ := hH
  refine lv_aload_n (pc := 15) C0.1 C0.2.1 dX10_hang_15 rfl (lv_at hl 1 rfl) ?_
  refine xget (pc := 16) C0 hH 78 48 clX10 ⟨Nat.le_of_ble_eq_true rfl, Nat.le_of_ble_eq_true rfl⟩ ⟨rfl, rfl⟩ (Nat.le_of_ble_eq_true rfl) fl_X10_112 (v := .ref (b + 111)) rfl dX10_hang_16 ?_
  refine lv_iload_n (pc := 19) C0.1 C0.2.1 dX10_hang_19 rfl (lv_at hl 0 rfl) ?_
  refine lv_iload_n (pc := 20) C0.1 C0.2.1 dX10_hang_20 rfl (lv_at hl 3 rfl) ?_
  refine xiast (pc := 21) (N := 1802) C0 (Nat.le_of_ble_eq_true rfl) hH hS 111 ⟨Nat.le_of_ble_eq_true rfl, Nat.le_of_ble_eq_true rfl⟩ ⟨rfl, rfl⟩ (vI (by omega) (by omega)) dX10_hang_21 (fun _ locs hH hS _ => ?_)
  have hH : Hd D tA b 78 52 zz (up2 i 78 47 x2) (va_up F 111 (upd (F 111) (Int32.toNatClampNeg x1) y)) G _ := hH
  refine lv_aload_n (pc := 22) C0.1 C0.2.1 dX10_hang_22 rfl (lv_at hl 1 rfl) ?_
  refine xget (pc := 23) C0 hH 78 49 clX10 ⟨Nat.le_of_ble_eq_true rfl, Nat.le_of_ble_eq_true rfl⟩ ⟨rfl, rfl⟩ (Nat.le_of_ble_eq_true rfl) fl_X10_115 (v := .ref (b + 112)) rfl dX10_hang_23 ?_
  refine lv_iload_n (pc := 26) C0.1 C0.2.1 dX10_hang_26 rfl (lv_at hl 0 rfl) ?_
  refine lv_bipush (pc := 27) (v := (-9)) C0.1 C0.2.1 dX10_hang_27 (by decide) ?_
  refine xiast (pc := 29) (N := 1802) C0 (Nat.le_of_ble_eq_true rfl) hH hS 112 ⟨Nat.le_of_ble_eq_true rfl, Nat.le_of_ble_eq_true rfl⟩ ⟨rfl, rfl⟩ (vI (by omega) (by omega)) dX10_hang_29 (fun _ locs hH hS _ => ?_)
  have hH : Hd D tA b 78 52 zz (up2 i 78 47 x2) (va_up (va_up F 111 (upd (F 111) (Int32.toNatClampNeg x1) y)) 112 (upd (F 112) (Int32.toNatClampNeg x1) (-9))) G _ := hH
  refine lv_aload_n (pc := 30) C0.1 C0.2.1 dX10_hang_30 rfl (lv_at hl 1 rfl) ?_
  refine xget (pc := 31) C0 hH 78 46 clX10 ⟨Nat.le_of_ble_eq_true rfl, Nat.le_of_ble_eq_true rfl⟩ ⟨rfl, rfl⟩ (Nat.le_of_ble_eq_true rfl) fl_X10_109 (v := .ref (b + 110)) rfl dX10_hang_31 ?_
  refine lv_iload_n (pc := 34) C0.1 C0.2.1 dX10_hang_34 rfl (lv_at hl 2 rfl) ?_
  refine xiald (pc := 35) (N := 1202) C0 hH 110 ⟨Nat.le_of_ble_eq_true rfl, Nat.le_of_ble_eq_true rfl⟩ ⟨rfl, rfl⟩ (vI (by omega) (by omega)) dX10_hang_35 ?_
  refine lv_topi (fun q3 eq3 => ?_)
  obtain rfl : q3 = F 110 (Int32.toNatClampNeg x) := eq3.trans rfl
  refine lv_bipush (pc := 36) (v := (-9)) C0.1 C0.2.1 dX10_hang_36 (by decide) ?_
  refine lv_icmp_ne (pc := 38) (tgt := 51) C0.1 C0.2.1 dX10_hang_38 (by decide) (fun c4 => ?_) (fun c4 => ?_)
  · have : Int32.toInt (-9) = (-9) := rfl
    have c4 : ¬ _ := fun q => c4 (Int32.toInt_inj.mp q)
    refine lv_aload_n (pc := 51) C0.1 C0.2.1 dX10_hang_51 rfl (lv_at hl 1 rfl) ?_
    refine xget (pc := 52) C0 hH 78 49 clX10 ⟨Nat.le_of_ble_eq_true rfl, Nat.le_of_ble_eq_true rfl⟩ ⟨rfl, rfl⟩ (Nat.le_of_ble_eq_true rfl) fl_X10_115 (v := .ref (b + 112)) rfl dX10_hang_52 ?_
    refine lv_aload_n (pc := 55) C0.1 C0.2.1 dX10_hang_55 rfl (lv_at hl 1 rfl) ?_
    refine xget (pc := 56) C0 hH 78 46 clX10 ⟨Nat.le_of_ble_eq_true rfl, Nat.le_of_ble_eq_true rfl⟩ ⟨rfl, rfl⟩ (Nat.le_of_ble_eq_true rfl) fl_X10_109 (v := .ref (b + 110)) rfl dX10_hang_56 ?_
    refine lv_iload_n (pc := 59) C0.1 C0.2.1 dX10_hang_59 rfl (lv_at hl 2 rfl) ?_
    refine xiald (pc := 60) (N := 1202) C0 hH 110 ⟨Nat.le_of_ble_eq_true rfl, Nat.le_of_ble_eq_true rfl⟩ ⟨rfl, rfl⟩ (vI (by omega) (by omega)) dX10_hang_60 ?_
    refine lv_topi (fun q5 eq5 => ?_)
    obtain rfl : q5 = F 110 (Int32.toNatClampNeg x) := eq5.trans rfl
    refine lv_iload_n (pc := 61) C0.1 C0.2.1 dX10_hang_61 rfl (lv_at hl 0 rfl) ?_
    refine xiast (pc := 62) (N := 1802) C0 (Nat.le_of_ble_eq_true rfl) hH hS 112 ⟨Nat.le_of_ble_eq_true rfl, Nat.le_of_ble_eq_true rfl⟩ ⟨rfl, rfl⟩ (vI (by omega) (by omega)) dX10_hang_62 (fun _ locs hH hS _ => ?_)
    have hH : Hd D tA b 78 52 zz (up2 i 78 47 x2) (va_up (va_up (va_up F 111 (upd (F 111) (Int32.toNatClampNeg x1) y)) 112 (upd (F 112) (Int32.toNatClampNeg x1) (-9))) 112 (upd (upd (F 112) (Int32.toNatClampNeg x1) (-9)) (Int32.toNatClampNeg (F 110 (Int32.toNatClampNeg x))) x1)) G _ := hH
    refine lv_aload_n (pc := 63) C0.1 C0.2.1 dX10_hang_63 rfl (lv_at hl 1 rfl) ?_
    refine xget (pc := 64) C0 hH 78 46 clX10 ⟨Nat.le_of_ble_eq_true rfl, Nat.le_of_ble_eq_true rfl⟩ ⟨rfl, rfl⟩ (Nat.le_of_ble_eq_true rfl) fl_X10_109 (v := .ref (b + 110)) rfl dX10_hang_64 ?_
    refine lv_iload_n (pc := 67) C0.1 C0.2.1 dX10_hang_67 rfl (lv_at hl 2 rfl) ?_
    refine lv_iload_n (pc := 68) C0.1 C0.2.1 dX10_hang_68 rfl (lv_at hl 0 rfl) ?_
    refine xiast (pc := 69) (N := 1202) C0 (Nat.le_of_ble_eq_true rfl) hH hS 110 ⟨Nat.le_of_ble_eq_true rfl, Nat.le_of_ble_eq_true rfl⟩ ⟨rfl, rfl⟩ (vI (by omega) (by omega)) dX10_hang_69 (fun _ locs hH hS _ => ?_)
    have hH : Hd D tA b 78 52 zz (up2 i 78 47 x2) (va_up (va_up (va_up (va_up F 111 (upd (F 111) (Int32.toNatClampNeg x1) y)) 112 (upd (F 112) (Int32.toNatClampNeg x1) (-9))) 112 (upd (upd (F 112) (Int32.toNatClampNeg x1) (-9)) (Int32.toNatClampNeg (F 110 (Int32.toNatClampNeg x))) x1)) 110 (upd (F 110) (Int32.toNatClampNeg x) x1)) G _ := hH
    refine lv_aload_n (pc := 70) C0.1 C0.2.1 dX10_hang_70 rfl (lv_at hl 1 rfl) ?_
    refine xget (pc := 71) C0 hH 78 44 clX10 ⟨Nat.le_of_ble_eq_true rfl, Nat.le_of_ble_eq_true rfl⟩ ⟨rfl, rfl⟩ (Nat.le_of_ble_eq_true rfl) fl_X10_103 (v := .ref (b + 108)) rfl dX10_hang_71 ?_
    refine lv_iload_n (pc := 74) C0.1 C0.2.1 dX10_hang_74 rfl (lv_at hl 2 rfl) ?_
    refine lv_dup2_11 (pc := 75) C0.1 C0.2.1 dX10_hang_75 rfl rfl ?_
    refine xiald (pc := 76) (N := 1202) C0 hH 108 ⟨Nat.le_of_ble_eq_true rfl, Nat.le_of_ble_eq_true rfl⟩ ⟨rfl, rfl⟩ (vI (by omega) (by omega)) dX10_hang_76 ?_
    refine lv_topi (fun q6 eq6 => ?_)
    obtain rfl : q6 = F 108 (Int32.toNatClampNeg x) := eq6.trans rfl
    refine lv_iconst (pc := 77) (v := 1) C0.1 C0.2.1 dX10_hang_77 (by decide) ?_
    have : Int32.toInt 1 = 1 := rfl
    refine lv_iadd (pc := 78) C0.1 C0.2.1 dX10_hang_78 ?_
    refine lv_topi (fun x7 ex7 => ?_)
    have hx7 : Int32.toInt x7 = Int32.toInt (F 108 (Int32.toNatClampNeg x)) + Int32.toInt 1 := by rw [ex7]; exact fb_addI (by omega) (by omega)
    refine xiast (pc := 79) (N := 1202) C0 (Nat.le_of_ble_eq_true rfl) hH hS 108 ⟨Nat.le_of_ble_eq_true rfl, Nat.le_of_ble_eq_true rfl⟩ ⟨rfl, rfl⟩ (vI (by omega) (by omega)) dX10_hang_79 (fun _ locs hH hS _ => ?_)
    have hH : Hd D tA b 78 52 zz (up2 i 78 47 x2) (va_up (va_up (va_up (va_up (va_up F 111 (upd (F 111) (Int32.toNatClampNeg x1) y)) 112 (upd (F 112) (Int32.toNatClampNeg x1) (-9))) 112 (upd (upd (F 112) (Int32.toNatClampNeg x1) (-9)) (Int32.toNatClampNeg (F 110 (Int32.toNatClampNeg x))) x1)) 110 (upd (F 110) (Int32.toNatClampNeg x) x1)) 108 (upd (F 108) (Int32.toNatClampNeg x) x7)) G _ := hH
    exact xvret (pc := 80) C0 hr hH hS dX10_hang_80 ⟨(RO.f (RO.f (RO.f (RO.f (RO.f (RO.i RO.rf (by decide)) (by decide)) (by decide)) (by decide)) (by decide)) (by decide)), TMm.hang (xp := x1) (xc := x7) hT hx hpm ex1 (show _ = (F 108 (Int32.toNatClampNeg x)).toInt + 1 from by omega) hyv rfl rfl rfl (by first | exact Or.inl ⟨show (F 110 (Int32.toNatClampNeg x)).toInt = -9 from by omega, rfl, rfl⟩ | exact Or.inr ⟨show ¬ (F 110 (Int32.toNatClampNeg x)).toInt = -9 from by omega, rfl, rfl⟩) rfl rfl rfl rfl rfl rfl rfl rfl rfl rfl rfl (show Int32.toInt x2 = _ from by omega), (show Int32.toInt x2 = _ from by omega)⟩
  · have : Int32.toInt (-9) = (-9) := rfl
    have c4 := congrArg Int32.toInt c4
    refine lv_aload_n (pc := 41) C0.1 C0.2.1 dX10_hang_41 rfl (lv_at hl 1 rfl) ?_
    refine xget (pc := 42) C0 hH 78 45 clX10 ⟨Nat.le_of_ble_eq_true rfl, Nat.le_of_ble_eq_true rfl⟩ ⟨rfl, rfl⟩ (Nat.le_of_ble_eq_true rfl) fl_X10_106 (v := .ref (b + 109)) rfl dX10_hang_42 ?_
    refine lv_iload_n (pc := 45) C0.1 C0.2.1 dX10_hang_45 rfl (lv_at hl 2 rfl) ?_
    refine lv_iload_n (pc := 46) C0.1 C0.2.1 dX10_hang_46 rfl (lv_at hl 0 rfl) ?_
    refine xiast (pc := 47) (N := 1202) C0 (Nat.le_of_ble_eq_true rfl) hH hS 109 ⟨Nat.le_of_ble_eq_true rfl, Nat.le_of_ble_eq_true rfl⟩ ⟨rfl, rfl⟩ (vI (by omega) (by omega)) dX10_hang_47 (fun _ locs hH hS _ => ?_)
    have hH : Hd D tA b 78 52 zz (up2 i 78 47 x2) (va_up (va_up (va_up F 111 (upd (F 111) (Int32.toNatClampNeg x1) y)) 112 (upd (F 112) (Int32.toNatClampNeg x1) (-9))) 109 (upd (F 109) (Int32.toNatClampNeg x) x1)) G _ := hH
    refine lv_goto (pc := 48) (tgt := 63) C0.1 C0.2.1 dX10_hang_48 (by decide) ?_
    refine lv_aload_n (pc := 63) C0.1 C0.2.1 dX10_hang_63 rfl (lv_at hl 1 rfl) ?_
    refine xget (pc := 64) C0 hH 78 46 clX10 ⟨Nat.le_of_ble_eq_true rfl, Nat.le_of_ble_eq_true rfl⟩ ⟨rfl, rfl⟩ (Nat.le_of_ble_eq_true rfl) fl_X10_109 (v := .ref (b + 110)) rfl dX10_hang_64 ?_
    refine lv_iload_n (pc := 67) C0.1 C0.2.1 dX10_hang_67 rfl (lv_at hl 2 rfl) ?_
    refine lv_iload_n (pc := 68) C0.1 C0.2.1 dX10_hang_68 rfl (lv_at hl 0 rfl) ?_
    refine xiast (pc := 69) (N := 1202) C0 (Nat.le_of_ble_eq_true rfl) hH hS 110 ⟨Nat.le_of_ble_eq_true rfl, Nat.le_of_ble_eq_true rfl⟩ ⟨rfl, rfl⟩ (vI (by omega) (by omega)) dX10_hang_69 (fun _ locs hH hS _ => ?_)
    have hH : Hd D tA b 78 52 zz (up2 i 78 47 x2) (va_up (va_up (va_up (va_up F 111 (upd (F 111) (Int32.toNatClampNeg x1) y)) 112 (upd (F 112) (Int32.toNatClampNeg x1) (-9))) 109 (upd (F 109) (Int32.toNatClampNeg x) x1)) 110 (upd (F 110) (Int32.toNatClampNeg x) x1)) G _ := hH
    refine lv_aload_n (pc := 70) C0.1 C0.2.1 dX10_hang_70 rfl (lv_at hl 1 rfl) ?_
    refine xget (pc := 71) C0 hH 78 44 clX10 ⟨Nat.le_of_ble_eq_true rfl, Nat.le_of_ble_eq_true rfl⟩ ⟨rfl, rfl⟩ (Nat.le_of_ble_eq_true rfl) fl_X10_103 (v := .ref (b + 108)) rfl dX10_hang_71 ?_
    refine lv_iload_n (pc := 74) C0.1 C0.2.1 dX10_hang_74 rfl (lv_at hl 2 rfl) ?_
    refine lv_dup2_11 (pc := 75) C0.1 C0.2.1 dX10_hang_75 rfl rfl ?_
    refine xiald (pc := 76) (N := 1202) C0 hH 108 ⟨Nat.le_of_ble_eq_true rfl, Nat.le_of_ble_eq_true rfl⟩ ⟨rfl, rfl⟩ (vI (by omega) (by omega)) dX10_hang_76 ?_
    refine lv_topi (fun q8 eq8 => ?_)
    obtain rfl : q8 = F 108 (Int32.toNatClampNeg x) := eq8.trans rfl
    refine lv_iconst (pc := 77) (v := 1) C0.1 C0.2.1 dX10_hang_77 (by decide) ?_
    have : Int32.toInt 1 = 1 := rfl
    refine lv_iadd (pc := 78) C0.1 C0.2.1 dX10_hang_78 ?_
    refine lv_topi (fun x9 ex9 => ?_)
    have hx9 : Int32.toInt x9 = Int32.toInt (F 108 (Int32.toNatClampNeg x)) + Int32.toInt 1 := by rw [ex9]; exact fb_addI (by omega) (by omega)
    refine xiast (pc := 79) (N := 1202) C0 (Nat.le_of_ble_eq_true rfl) hH hS 108 ⟨Nat.le_of_ble_eq_true rfl, Nat.le_of_ble_eq_true rfl⟩ ⟨rfl, rfl⟩ (vI (by omega) (by omega)) dX10_hang_79 (fun _ locs hH hS _ => ?_)
    have hH : Hd D tA b 78 52 zz (up2 i 78 47 x2) (va_up (va_up (va_up (va_up (va_up F 111 (upd (F 111) (Int32.toNatClampNeg x1) y)) 112 (upd (F 112) (Int32.toNatClampNeg x1) (-9))) 109 (upd (F 109) (Int32.toNatClampNeg x) x1)) 110 (upd (F 110) (Int32.toNatClampNeg x) x1)) 108 (upd (F 108) (Int32.toNatClampNeg x) x9)) G _ := hH
    exact xvret (pc := 80) C0 hr hH hS dX10_hang_80 ⟨(RO.f (RO.f (RO.f (RO.f (RO.f (RO.i RO.rf (by decide)) (by decide)) (by decide)) (by decide)) (by decide)) (by decide)), TMm.hang (xp := x1) (xc := x9) hT hx hpm ex1 (show _ = (F 108 (Int32.toNatClampNeg x)).toInt + 1 from by omega) hyv rfl rfl rfl (by first | exact Or.inl ⟨show (F 110 (Int32.toNatClampNeg x)).toInt = -9 from by omega, rfl, rfl⟩ | exact Or.inr ⟨show ¬ (F 110 (Int32.toNatClampNeg x)).toInt = -9 from by omega, rfl, rfl⟩) rfl rfl rfl rfl rfl rfl rfl rfl rfl rfl rfl (show Int32.toInt x2 = _ from by omega), (show Int32.toInt x2 = _ from by omega)⟩
set_option maxHeartbeats 4000000 in
set_option maxRecDepth 100000 in
theorem m_newItem (l : Launch) (D : va_G) (tA : Nat → ClassId) (b : Nat) (i F : Nat → Nat → Int32) (G : Nat → Nat → Int64) (x : Int32) (hT : TMm i F) (hx : 0 ≤ x.toInt ∧ x.toInt < (i 78 32).toInt) (him : (i 78 40).toInt < 1202) : xMV l yX10_newItem cX10_newItem 3 none 0 0 D tA b 78 52 i F G [.ref (b + 78), .int x] (fun u => RO [40] [102, 103, 104, 105, 106, 107, 108, 109, 110] i F G u ∧ TMm u.1 u.2.1 ∧ (u.1 78 40).toInt = (i 78 40).toInt + 1 ∧ (∀ c, (F 102 c).toInt ≤ (u.2.1 102 c).toInt) ∧ 1 ≤ (u.2.1 102 (cl x)).toInt) := by
  refine xstart RX10 rfl (by decide) (Nat.le_of_ble_eq_true rfl) ?_
  intro p e s m below meth c ls C0 hr hH hS hl
  have hl : lv_has ls 3 [(0, .ref (b + 78)), (1, .int x)] := hl
  have rg_x := fb_rng x
  have hTL := TMm.lin hT
  have hBx := TMm.bt hT hx
  refine lv_aload_n (pc := 0) C0.1 C0.2.1 dX10_newItem_0 rfl (lv_at hl 0 rfl) ?_
  refine xget (pc := 1) C0 hH 78 40 clX10 ⟨Nat.le_of_ble_eq_true rfl, Nat.le_of_ble_eq_true rfl⟩ ⟨rfl, rfl⟩ (Nat.le_of_ble_eq_true rfl) fl_X10_287 (v := .int (i 78 40)) rfl dX10_newItem_1 ?_
  refine lv_topi (fun x1 ex1 => ?_)
  refine lv_istore_n (pc := 4) (lv' := [(2, .int x1), (0, .ref (b + 78)), (1, .int x)]) C0.1 C0.2.1 dX10_newItem_4 rfl hl (by decide) rfl (fun ls hl => ?_)
  have e1I := congrArg Int32.toInt ex1
  refine lv_aload_n (pc := 5) C0.1 C0.2.1 dX10_newItem_5 rfl (lv_at hl 1 rfl) ?_
  refine lv_dup (pc := 6) C0.1 C0.2.1 dX10_newItem_6 rfl ?_
  refine xget (pc := 7) C0 hH 78 40 clX10 ⟨Nat.le_of_ble_eq_true rfl, Nat.le_of_ble_eq_true rfl⟩ ⟨rfl, rfl⟩ (Nat.le_of_ble_eq_true rfl) fl_X10_287 (v := .int (i 78 40)) rfl dX10_newItem_7 ?_
  refine lv_iconst (pc := 10) (v := 1) C0.1 C0.2.1 dX10_newItem_10 (by decide) ?_
  have : Int32.toInt 1 = 1 := rfl
  refine lv_iadd (pc := 11) C0.1 C0.2.1 dX10_newItem_11 ?_
  refine lv_topi (fun x2 ex2 => ?_)
  have hx2 : Int32.toInt x2 = Int32.toInt (i 78 40) + Int32.toInt 1 := by rw [ex2]; exact fb_addI (by omega) (by omega)
  refine xputI (pc := 12) C0 (Nat.le_of_ble_eq_true rfl) hH hS 78 40 clX10 ⟨Nat.le_of_ble_eq_true rfl, Nat.le_of_ble_eq_true rfl⟩ ⟨rfl, rfl⟩ ⟨Nat.le_of_ble_eq_true rfl, rfl, rfl⟩ fl_X10_287 (x := x2) ⟨rfl, rfl⟩ dX10_newItem_12 (fun _ locs hH hS _ => ?_)
  have hH : Hd D tA b 78 52 zz (up2 i 78 40 x2) F G _ := hH
  refine lv_aload_n (pc := 15) C0.1 C0.2.1 dX10_newItem_15 rfl (lv_at hl 1 rfl) ?_
  refine xget (pc := 16) C0 hH 78 41 clX10 ⟨Nat.le_of_ble_eq_true rfl, Nat.le_of_ble_eq_true rfl⟩ ⟨rfl, rfl⟩ (Nat.le_of_ble_eq_true rfl) fl_X10_94 (v := .ref (b + 105)) rfl dX10_newItem_16 ?_
  refine lv_iload_n (pc := 19) C0.1 C0.2.1 dX10_newItem_19 rfl (lv_at hl 0 rfl) ?_
  refine lv_iload_n (pc := 20) C0.1 C0.2.1 dX10_newItem_20 rfl (lv_at hl 2 rfl) ?_
  refine xiast (pc := 21) (N := 1202) C0 (Nat.le_of_ble_eq_true rfl) hH hS 105 ⟨Nat.le_of_ble_eq_true rfl, Nat.le_of_ble_eq_true rfl⟩ ⟨rfl, rfl⟩ (vI (by omega) (by omega)) dX10_newItem_21 (fun _ locs hH hS _ => ?_)
  have hH : Hd D tA b 78 52 zz (up2 i 78 40 x2) (va_up F 105 (upd (F 105) (Int32.toNatClampNeg x1) x)) G _ := hH
  refine lv_aload_n (pc := 22) C0.1 C0.2.1 dX10_newItem_22 rfl (lv_at hl 1 rfl) ?_
  refine xget (pc := 23) C0 hH 78 42 clX10 ⟨Nat.le_of_ble_eq_true rfl, Nat.le_of_ble_eq_true rfl⟩ ⟨rfl, rfl⟩ (Nat.le_of_ble_eq_true rfl) fl_X10_97 (v := .ref (b + 106)) rfl dX10_newItem_23 ?_
  refine lv_iload_n (pc := 26) C0.1 C0.2.1 dX10_newItem_26 rfl (lv_at hl 0 rfl) ?_
  refine lv_aload_n (pc := 27) C0.1 C0.2.1 dX10_newItem_27 rfl (lv_at hl 1 rfl) ?_
  refine xget (pc := 28) C0 hH 78 37 clX10 ⟨Nat.le_of_ble_eq_true rfl, Nat.le_of_ble_eq_true rfl⟩ ⟨rfl, rfl⟩ (Nat.le_of_ble_eq_true rfl) fl_X10_85 (v := .ref (b + 102)) rfl dX10_newItem_28 ?_
  refine lv_iload_n (pc := 31) C0.1 C0.2.1 dX10_newItem_31 rfl (lv_at hl 2 rfl) ?_
  refine xiald (pc := 32) (N := 1202) C0 hH 102 ⟨Nat.le_of_ble_eq_true rfl, Nat.le_of_ble_eq_true rfl⟩ ⟨rfl, rfl⟩ (vI (by omega) (by omega)) dX10_newItem_32 ?_
  refine lv_topi (fun q3 eq3 => ?_)
  obtain rfl : q3 = F 102 (Int32.toNatClampNeg x) := eq3.trans rfl
  refine xiast (pc := 33) (N := 1202) C0 (Nat.le_of_ble_eq_true rfl) hH hS 106 ⟨Nat.le_of_ble_eq_true rfl, Nat.le_of_ble_eq_true rfl⟩ ⟨rfl, rfl⟩ (vI (by omega) (by omega)) dX10_newItem_33 (fun _ locs hH hS _ => ?_)
  have hH : Hd D tA b 78 52 zz (up2 i 78 40 x2) (va_up (va_up F 105 (upd (F 105) (Int32.toNatClampNeg x1) x)) 106 (upd (F 106) (Int32.toNatClampNeg x1) (F 102 (Int32.toNatClampNeg x)))) G _ := hH
  refine lv_aload_n (pc := 34) C0.1 C0.2.1 dX10_newItem_34 rfl (lv_at hl 1 rfl) ?_
  refine xget (pc := 35) C0 hH 78 43 clX10 ⟨Nat.le_of_ble_eq_true rfl, Nat.le_of_ble_eq_true rfl⟩ ⟨rfl, rfl⟩ (Nat.le_of_ble_eq_true rfl) fl_X10_100 (v := .ref (b + 107)) rfl dX10_newItem_35 ?_
  refine lv_iload_n (pc := 38) C0.1 C0.2.1 dX10_newItem_38 rfl (lv_at hl 0 rfl) ?_
  refine lv_bipush (pc := 39) (v := (-9)) C0.1 C0.2.1 dX10_newItem_39 (by decide) ?_
  refine xiast (pc := 41) (N := 1202) C0 (Nat.le_of_ble_eq_true rfl) hH hS 107 ⟨Nat.le_of_ble_eq_true rfl, Nat.le_of_ble_eq_true rfl⟩ ⟨rfl, rfl⟩ (vI (by omega) (by omega)) dX10_newItem_41 (fun _ locs hH hS _ => ?_)
  have hH : Hd D tA b 78 52 zz (up2 i 78 40 x2) (va_up (va_up (va_up F 105 (upd (F 105) (Int32.toNatClampNeg x1) x)) 106 (upd (F 106) (Int32.toNatClampNeg x1) (F 102 (Int32.toNatClampNeg x)))) 107 (upd (F 107) (Int32.toNatClampNeg x1) (-9))) G _ := hH
  refine lv_aload_n (pc := 42) C0.1 C0.2.1 dX10_newItem_42 rfl (lv_at hl 1 rfl) ?_
  refine xget (pc := 43) C0 hH 78 44 clX10 ⟨Nat.le_of_ble_eq_true rfl, Nat.le_of_ble_eq_true rfl⟩ ⟨rfl, rfl⟩ (Nat.le_of_ble_eq_true rfl) fl_X10_103 (v := .ref (b + 108)) rfl dX10_newItem_43 ?_
  refine lv_iload_n (pc := 46) C0.1 C0.2.1 dX10_newItem_46 rfl (lv_at hl 0 rfl) ?_
  refine lv_iconst (pc := 47) (v := 0) C0.1 C0.2.1 dX10_newItem_47 (by decide) ?_
  refine xiast (pc := 48) (N := 1202) C0 (Nat.le_of_ble_eq_true rfl) hH hS 108 ⟨Nat.le_of_ble_eq_true rfl, Nat.le_of_ble_eq_true rfl⟩ ⟨rfl, rfl⟩ (vI (by omega) (by omega)) dX10_newItem_48 (fun _ locs hH hS _ => ?_)
  have hH : Hd D tA b 78 52 zz (up2 i 78 40 x2) (va_up (va_up (va_up (va_up F 105 (upd (F 105) (Int32.toNatClampNeg x1) x)) 106 (upd (F 106) (Int32.toNatClampNeg x1) (F 102 (Int32.toNatClampNeg x)))) 107 (upd (F 107) (Int32.toNatClampNeg x1) (-9))) 108 (upd (F 108) (Int32.toNatClampNeg x1) 0)) G _ := hH
  refine lv_aload_n (pc := 49) C0.1 C0.2.1 dX10_newItem_49 rfl (lv_at hl 1 rfl) ?_
  refine xget (pc := 50) C0 hH 78 45 clX10 ⟨Nat.le_of_ble_eq_true rfl, Nat.le_of_ble_eq_true rfl⟩ ⟨rfl, rfl⟩ (Nat.le_of_ble_eq_true rfl) fl_X10_106 (v := .ref (b + 109)) rfl dX10_newItem_50 ?_
  refine lv_iload_n (pc := 53) C0.1 C0.2.1 dX10_newItem_53 rfl (lv_at hl 0 rfl) ?_
  refine lv_bipush (pc := 54) (v := (-9)) C0.1 C0.2.1 dX10_newItem_54 (by decide) ?_
  refine xiast (pc := 56) (N := 1202) C0 (Nat.le_of_ble_eq_true rfl) hH hS 109 ⟨Nat.le_of_ble_eq_true rfl, Nat.le_of_ble_eq_true rfl⟩ ⟨rfl, rfl⟩ (vI (by omega) (by omega)) dX10_newItem_56 (fun _ locs hH hS _ => ?_)
  have hH : Hd D tA b 78 52 zz (up2 i 78 40 x2) (va_up (va_up (va_up (va_up (va_up F 105 (upd (F 105) (Int32.toNatClampNeg x1) x)) 106 (upd (F 106) (Int32.toNatClampNeg x1) (F 102 (Int32.toNatClampNeg x)))) 107 (upd (F 107) (Int32.toNatClampNeg x1) (-9))) 108 (upd (F 108) (Int32.toNatClampNeg x1) 0)) 109 (upd (F 109) (Int32.toNatClampNeg x1) (-9))) G _ := hH
  refine lv_aload_n (pc := 57) C0.1 C0.2.1 dX10_newItem_57 rfl (lv_at hl 1 rfl) ?_
  refine xget (pc := 58) C0 hH 78 46 clX10 ⟨Nat.le_of_ble_eq_true rfl, Nat.le_of_ble_eq_true rfl⟩ ⟨rfl, rfl⟩ (Nat.le_of_ble_eq_true rfl) fl_X10_109 (v := .ref (b + 110)) rfl dX10_newItem_58 ?_
  refine lv_iload_n (pc := 61) C0.1 C0.2.1 dX10_newItem_61 rfl (lv_at hl 0 rfl) ?_
  refine lv_bipush (pc := 62) (v := (-9)) C0.1 C0.2.1 dX10_newItem_62 (by decide) ?_
  refine xiast (pc := 64) (N := 1202) C0 (Nat.le_of_ble_eq_true rfl) hH hS 110 ⟨Nat.le_of_ble_eq_true rfl, Nat.le_of_ble_eq_true rfl⟩ ⟨rfl, rfl⟩ (vI (by omega) (by omega)) dX10_newItem_64 (fun _ locs hH hS _ => ?_)
  have hH : Hd D tA b 78 52 zz (up2 i 78 40 x2) (va_up (va_up (va_up (va_up (va_up (va_up F 105 (upd (F 105) (Int32.toNatClampNeg x1) x)) 106 (upd (F 106) (Int32.toNatClampNeg x1) (F 102 (Int32.toNatClampNeg x)))) 107 (upd (F 107) (Int32.toNatClampNeg x1) (-9))) 108 (upd (F 108) (Int32.toNatClampNeg x1) 0)) 109 (upd (F 109) (Int32.toNatClampNeg x1) (-9))) 110 (upd (F 110) (Int32.toNatClampNeg x1) (-9))) G _ := hH
  refine lv_aload_n (pc := 65) C0.1 C0.2.1 dX10_newItem_65 rfl (lv_at hl 1 rfl) ?_
  refine xget (pc := 66) C0 hH 78 39 clX10 ⟨Nat.le_of_ble_eq_true rfl, Nat.le_of_ble_eq_true rfl⟩ ⟨rfl, rfl⟩ (Nat.le_of_ble_eq_true rfl) fl_X10_91 (v := .ref (b + 104)) rfl dX10_newItem_66 ?_
  refine lv_iload_n (pc := 69) C0.1 C0.2.1 dX10_newItem_69 rfl (lv_at hl 2 rfl) ?_
  refine xiald (pc := 70) (N := 1202) C0 hH 104 ⟨Nat.le_of_ble_eq_true rfl, Nat.le_of_ble_eq_true rfl⟩ ⟨rfl, rfl⟩ (vI (by omega) (by omega)) dX10_newItem_70 ?_
  refine lv_topi (fun q4 eq4 => ?_)
  obtain rfl : q4 = F 104 (Int32.toNatClampNeg x) := eq4.trans rfl
  refine lv_bipush (pc := 71) (v := (-9)) C0.1 C0.2.1 dX10_newItem_71 (by decide) ?_
  refine lv_icmp_ne (pc := 73) (tgt := 86) C0.1 C0.2.1 dX10_newItem_73 (by decide) (fun c5 => ?_) (fun c5 => ?_)
  · have : Int32.toInt (-9) = (-9) := rfl
    have c5 : ¬ _ := fun q => c5 (Int32.toInt_inj.mp q)
    refine lv_aload_n (pc := 86) C0.1 C0.2.1 dX10_newItem_86 rfl (lv_at hl 1 rfl) ?_
    refine xget (pc := 87) C0 hH 78 43 clX10 ⟨Nat.le_of_ble_eq_true rfl, Nat.le_of_ble_eq_true rfl⟩ ⟨rfl, rfl⟩ (Nat.le_of_ble_eq_true rfl) fl_X10_100 (v := .ref (b + 107)) rfl dX10_newItem_87 ?_
    refine lv_aload_n (pc := 90) C0.1 C0.2.1 dX10_newItem_90 rfl (lv_at hl 1 rfl) ?_
    refine xget (pc := 91) C0 hH 78 39 clX10 ⟨Nat.le_of_ble_eq_true rfl, Nat.le_of_ble_eq_true rfl⟩ ⟨rfl, rfl⟩ (Nat.le_of_ble_eq_true rfl) fl_X10_91 (v := .ref (b + 104)) rfl dX10_newItem_91 ?_
    refine lv_iload_n (pc := 94) C0.1 C0.2.1 dX10_newItem_94 rfl (lv_at hl 2 rfl) ?_
    refine xiald (pc := 95) (N := 1202) C0 hH 104 ⟨Nat.le_of_ble_eq_true rfl, Nat.le_of_ble_eq_true rfl⟩ ⟨rfl, rfl⟩ (vI (by omega) (by omega)) dX10_newItem_95 ?_
    refine lv_topi (fun q6 eq6 => ?_)
    obtain rfl : q6 = F 104 (Int32.toNatClampNeg x) := eq6.trans rfl
    refine lv_iload_n (pc := 96) C0.1 C0.2.1 dX10_newItem_96 rfl (lv_at hl 0 rfl) ?_
    refine xiast (pc := 97) (N := 1202) C0 (Nat.le_of_ble_eq_true rfl) hH hS 107 ⟨Nat.le_of_ble_eq_true rfl, Nat.le_of_ble_eq_true rfl⟩ ⟨rfl, rfl⟩ (vI (by omega) (by omega)) dX10_newItem_97 (fun _ locs hH hS _ => ?_)
    have hH : Hd D tA b 78 52 zz (up2 i 78 40 x2) (va_up (va_up (va_up (va_up (va_up (va_up (va_up F 105 (upd (F 105) (Int32.toNatClampNeg x1) x)) 106 (upd (F 106) (Int32.toNatClampNeg x1) (F 102 (Int32.toNatClampNeg x)))) 107 (upd (F 107) (Int32.toNatClampNeg x1) (-9))) 108 (upd (F 108) (Int32.toNatClampNeg x1) 0)) 109 (upd (F 109) (Int32.toNatClampNeg x1) (-9))) 110 (upd (F 110) (Int32.toNatClampNeg x1) (-9))) 107 (upd (upd (F 107) (Int32.toNatClampNeg x1) (-9)) (Int32.toNatClampNeg (F 104 (Int32.toNatClampNeg x))) x1)) G _ := hH
    refine lv_aload_n (pc := 98) C0.1 C0.2.1 dX10_newItem_98 rfl (lv_at hl 1 rfl) ?_
    refine xget (pc := 99) C0 hH 78 39 clX10 ⟨Nat.le_of_ble_eq_true rfl, Nat.le_of_ble_eq_true rfl⟩ ⟨rfl, rfl⟩ (Nat.le_of_ble_eq_true rfl) fl_X10_91 (v := .ref (b + 104)) rfl dX10_newItem_99 ?_
    refine lv_iload_n (pc := 102) C0.1 C0.2.1 dX10_newItem_102 rfl (lv_at hl 2 rfl) ?_
    refine lv_iload_n (pc := 103) C0.1 C0.2.1 dX10_newItem_103 rfl (lv_at hl 0 rfl) ?_
    refine xiast (pc := 104) (N := 1202) C0 (Nat.le_of_ble_eq_true rfl) hH hS 104 ⟨Nat.le_of_ble_eq_true rfl, Nat.le_of_ble_eq_true rfl⟩ ⟨rfl, rfl⟩ (vI (by omega) (by omega)) dX10_newItem_104 (fun _ locs hH hS _ => ?_)
    have hH : Hd D tA b 78 52 zz (up2 i 78 40 x2) (va_up (va_up (va_up (va_up (va_up (va_up (va_up (va_up F 105 (upd (F 105) (Int32.toNatClampNeg x1) x)) 106 (upd (F 106) (Int32.toNatClampNeg x1) (F 102 (Int32.toNatClampNeg x)))) 107 (upd (F 107) (Int32.toNatClampNeg x1) (-9))) 108 (upd (F 108) (Int32.toNatClampNeg x1) 0)) 109 (upd (F 109) (Int32.toNatClampNeg x1) (-9))) 110 (upd (F 110) (Int32.toNatClampNeg x1) (-9))) 107 (upd (upd (F 107) (Int32.toNatClampNeg x1) (-9)) (Int32.toNatClampNeg (F 104 (Int32.toNatClampNeg x))) x1)) 104 (upd (F 104) (Int32.toNatClampNeg x) x1)) G _ := hH
    refine lv_aload_n (pc := 105) C0.1 C0.2.1 dX10_newItem_105 rfl (lv_at hl 1 rfl) ?_
    refine xget (pc := 106) C0 hH 78 37 clX10 ⟨Nat.le_of_ble_eq_true rfl, Nat.le_of_ble_eq_true rfl⟩ ⟨rfl, rfl⟩ (Nat.le_of_ble_eq_true rfl) fl_X10_85 (v := .ref (b + 102)) rfl dX10_newItem_106 ?_
    refine lv_iload_n (pc := 109) C0.1 C0.2.1 dX10_newItem_109 rfl (lv_at hl 2 rfl) ?_
    refine lv_dup2_11 (pc := 110) C0.1 C0.2.1 dX10_newItem_110 rfl rfl ?_
    refine xiald (pc := 111) (N := 1202) C0 hH 102 ⟨Nat.le_of_ble_eq_true rfl, Nat.le_of_ble_eq_true rfl⟩ ⟨rfl, rfl⟩ (vI (by omega) (by omega)) dX10_newItem_111 ?_
    refine lv_topi (fun q7 eq7 => ?_)
    obtain rfl : q7 = F 102 (Int32.toNatClampNeg x) := eq7.trans rfl
    refine lv_iconst (pc := 112) (v := 1) C0.1 C0.2.1 dX10_newItem_112 (by decide) ?_
    have : Int32.toInt 1 = 1 := rfl
    refine lv_iadd (pc := 113) C0.1 C0.2.1 dX10_newItem_113 ?_
    refine lv_topi (fun x8 ex8 => ?_)
    have hx8 : Int32.toInt x8 = Int32.toInt (F 102 (Int32.toNatClampNeg x)) + Int32.toInt 1 := by rw [ex8]; exact fb_addI (by omega) (by omega)
    refine xiast (pc := 114) (N := 1202) C0 (Nat.le_of_ble_eq_true rfl) hH hS 102 ⟨Nat.le_of_ble_eq_true rfl, Nat.le_of_ble_eq_true rfl⟩ ⟨rfl, rfl⟩ (vI (by omega) (by omega)) dX10_newItem_114 (fun _ locs hH hS _ => ?_)
    have hH : Hd D tA b 78 52 zz (up2 i 78 40 x2) (va_up (va_up (va_up (va_up (va_up (va_up (va_up (va_up (va_up F 105 (upd (F 105) (Int32.toNatClampNeg x1) x)) 106 (upd (F 106) (Int32.toNatClampNeg x1) (F 102 (Int32.toNatClampNeg x)))) 107 (upd (F 107) (Int32.toNatClampNeg x1) (-9))) 108 (upd (F 108) (Int32.toNatClampNeg x1) 0)) 109 (upd (F 109) (Int32.toNatClampNeg x1) (-9))) 110 (upd (F 110) (Int32.toNatClampNeg x1) (-9))) 107 (upd (upd (F 107) (Int32.toNatClampNeg x1) (-9)) (Int32.toNatClampNeg (F 104 (Int32.toNatClampNeg x))) x1)) 104 (upd (F 104) (Int32.toNatClampNeg x) x1)) 102 (upd (F 102) (Int32.toNatClampNeg x) x8)) G _ := hH
    have h2u : ∀ c, (F 102 c).toInt ≤ (upd (F 102) (Int32.toNatClampNeg x) x8 c).toInt ∧ (c = Int32.toNatClampNeg x → 1 ≤ (upd (F 102) (Int32.toNatClampNeg x) x8 c).toInt) := fun c => by
      have hxx : 0 ≤ (F 102 (Int32.toNatClampNeg x)).toInt := (by omega)
      by_cases q : c = Int32.toNatClampNeg x
      · rw [q, upd_s]; omega
      · rw [upd_n q]; exact ⟨Int.le_refl _, fun w => absurd w q⟩
    exact xvret (pc := 115) C0 hr hH hS dX10_newItem_115 ⟨(RO.f (RO.f (RO.f (RO.f (RO.f (RO.f (RO.f (RO.f (RO.f (RO.i RO.rf (by decide)) (by decide)) (by decide)) (by decide)) (by decide)) (by decide)) (by decide)) (by decide)) (by decide)) (by decide)), TMm.item (xi := x1) (xc := x8) hT hx him ex1 (show _ = (F 102 (Int32.toNatClampNeg x)).toInt + 1 from by omega) rfl rfl rfl rfl rfl rfl rfl (by first | exact Or.inl ⟨show (F 104 (Int32.toNatClampNeg x)).toInt = -9 from by omega, rfl, rfl⟩ | exact Or.inr ⟨show ¬ (F 104 (Int32.toNatClampNeg x)).toInt = -9 from by omega, rfl, rfl⟩) rfl rfl rfl rfl rfl rfl rfl (show Int32.toInt x2 = _ from by omega), (show Int32.toInt x2 = _ from by omega), fun c => (h2u c).1, (h2u _).2 rfl⟩
  · have : Int32.toInt (-9) = (-9) := rfl
    have c5 := congrArg Int32.toInt c5
    refine lv_aload_n (pc := 76) C0.1 C0.2.1 dX10_newItem_76 rfl (lv_at hl 1 rfl) ?_
    refine xget (pc := 77) C0 hH 78 38 clX10 ⟨Nat.le_of_ble_eq_true rfl, Nat.le_of_ble_eq_true rfl⟩ ⟨rfl, rfl⟩ (Nat.le_of_ble_eq_true rfl) fl_X10_88 (v := .ref (b + 103)) rfl dX10_newItem_77 ?_
    refine lv_iload_n (pc := 80) C0.1 C0.2.1 dX10_newItem_80 rfl (lv_at hl 2 rfl) ?_
    refine lv_iload_n (pc := 81) C0.1 C0.2.1 dX10_newItem_81 rfl (lv_at hl 0 rfl) ?_
    refine xiast (pc := 82) (N := 1202) C0 (Nat.le_of_ble_eq_true rfl) hH hS 103 ⟨Nat.le_of_ble_eq_true rfl, Nat.le_of_ble_eq_true rfl⟩ ⟨rfl, rfl⟩ (vI (by omega) (by omega)) dX10_newItem_82 (fun _ locs hH hS _ => ?_)
    have hH : Hd D tA b 78 52 zz (up2 i 78 40 x2) (va_up (va_up (va_up (va_up (va_up (va_up (va_up F 105 (upd (F 105) (Int32.toNatClampNeg x1) x)) 106 (upd (F 106) (Int32.toNatClampNeg x1) (F 102 (Int32.toNatClampNeg x)))) 107 (upd (F 107) (Int32.toNatClampNeg x1) (-9))) 108 (upd (F 108) (Int32.toNatClampNeg x1) 0)) 109 (upd (F 109) (Int32.toNatClampNeg x1) (-9))) 110 (upd (F 110) (Int32.toNatClampNeg x1) (-9))) 103 (upd (F 103) (Int32.toNatClampNeg x) x1)) G _ := hH
    refine lv_goto (pc := 83) (tgt := 98) C0.1 C0.2.1 dX10_newItem_83 (by decide) ?_
    refine lv_aload_n (pc := 98) C0.1 C0.2.1 dX10_newItem_98 rfl (lv_at hl 1 rfl) ?_
    refine xget (pc := 99) C0 hH 78 39 clX10 ⟨Nat.le_of_ble_eq_true rfl, Nat.le_of_ble_eq_true rfl⟩ ⟨rfl, rfl⟩ (Nat.le_of_ble_eq_true rfl) fl_X10_91 (v := .ref (b + 104)) rfl dX10_newItem_99 ?_
    refine lv_iload_n (pc := 102) C0.1 C0.2.1 dX10_newItem_102 rfl (lv_at hl 2 rfl) ?_
    refine lv_iload_n (pc := 103) C0.1 C0.2.1 dX10_newItem_103 rfl (lv_at hl 0 rfl) ?_
    refine xiast (pc := 104) (N := 1202) C0 (Nat.le_of_ble_eq_true rfl) hH hS 104 ⟨Nat.le_of_ble_eq_true rfl, Nat.le_of_ble_eq_true rfl⟩ ⟨rfl, rfl⟩ (vI (by omega) (by omega)) dX10_newItem_104 (fun _ locs hH hS _ => ?_)
    have hH : Hd D tA b 78 52 zz (up2 i 78 40 x2) (va_up (va_up (va_up (va_up (va_up (va_up (va_up (va_up F 105 (upd (F 105) (Int32.toNatClampNeg x1) x)) 106 (upd (F 106) (Int32.toNatClampNeg x1) (F 102 (Int32.toNatClampNeg x)))) 107 (upd (F 107) (Int32.toNatClampNeg x1) (-9))) 108 (upd (F 108) (Int32.toNatClampNeg x1) 0)) 109 (upd (F 109) (Int32.toNatClampNeg x1) (-9))) 110 (upd (F 110) (Int32.toNatClampNeg x1) (-9))) 103 (upd (F 103) (Int32.toNatClampNeg x) x1)) 104 (upd (F 104) (Int32.toNatClampNeg x) x1)) G _ := hH
    refine lv_aload_n (pc := 105) C0.1 C0.2.1 dX10_newItem_105 rfl (lv_at hl 1 rfl) ?_
    refine xget (pc := 106) C0 hH 78 37 clX10 ⟨Nat.le_of_ble_eq_true rfl, Nat.le_of_ble_eq_true rfl⟩ ⟨rfl, rfl⟩ (Nat.le_of_ble_eq_true rfl) fl_X10_85 (v := .ref (b + 102)) rfl dX10_newItem_106 ?_
    refine lv_iload_n (pc := 109) C0.1 C0.2.1 dX10_newItem_109 rfl (lv_at hl 2 rfl) ?_
    refine lv_dup2_11 (pc := 110) C0.1 C0.2.1 dX10_newItem_110 rfl rfl ?_
    refine xiald (pc := 111) (N := 1202) C0 hH 102 ⟨Nat.le_of_ble_eq_true rfl, Nat.le_of_ble_eq_true rfl⟩ ⟨rfl, rfl⟩ (vI (by omega) (by omega)) dX10_newItem_111 ?_
    refine lv_topi (fun q9 eq9 => ?_)
    obtain rfl : q9 = F 102 (Int32.toNatClampNeg x) := eq9.trans rfl
    refine lv_iconst (pc := 112) (v := 1) C0.1 C0.2.1 dX10_newItem_112 (by decide) ?_
    have : Int32.toInt 1 = 1 := rfl
    refine lv_iadd (pc := 113) C0.1 C0.2.1 dX10_newItem_113 ?_
    refine lv_topi (fun x10 ex10 => ?_)
    have hx10 : Int32.toInt x10 = Int32.toInt (F 102 (Int32.toNatClampNeg x)) + Int32.toInt 1 := by rw [ex10]; exact fb_addI (by omega) (by omega)
    refine xiast (pc := 114) (N := 1202) C0 (Nat.le_of_ble_eq_true rfl) hH hS 102 ⟨Nat.le_of_ble_eq_true rfl, Nat.le_of_ble_eq_true rfl⟩ ⟨rfl, rfl⟩ (vI (by omega) (by omega)) dX10_newItem_114 (fun _ locs hH hS _ => ?_)
    have hH : Hd D tA b 78 52 zz (up2 i 78 40 x2) (va_up (va_up (va_up (va_up (va_up (va_up (va_up (va_up (va_up F 105 (upd (F 105) (Int32.toNatClampNeg x1) x)) 106 (upd (F 106) (Int32.toNatClampNeg x1) (F 102 (Int32.toNatClampNeg x)))) 107 (upd (F 107) (Int32.toNatClampNeg x1) (-9))) 108 (upd (F 108) (Int32.toNatClampNeg x1) 0)) 109 (upd (F 109) (Int32.toNatClampNeg x1) (-9))) 110 (upd (F 110) (Int32.toNatClampNeg x1) (-9))) 103 (upd (F 103) (Int32.toNatClampNeg x) x1)) 104 (upd (F 104) (Int32.toNatClampNeg x) x1)) 102 (upd (F 102) (Int32.toNatClampNeg x) x10)) G _ := hH
    have h2u : ∀ c, (F 102 c).toInt ≤ (upd (F 102) (Int32.toNatClampNeg x) x10 c).toInt ∧ (c = Int32.toNatClampNeg x → 1 ≤ (upd (F 102) (Int32.toNatClampNeg x) x10 c).toInt) := fun c => by
      have hxx : 0 ≤ (F 102 (Int32.toNatClampNeg x)).toInt := (by omega)
      by_cases q : c = Int32.toNatClampNeg x
      · rw [q, upd_s]; omega
      · rw [upd_n q]; exact ⟨Int.le_refl _, fun w => absurd w q⟩
    exact xvret (pc := 115) C0 hr hH hS dX10_newItem_115 ⟨(RO.f (RO.f (RO.f (RO.f (RO.f (RO.f (RO.f (RO.f (RO.f (RO.i RO.rf (by decide)) (by decide)) (by decide)) (by decide)) (by decide)) (by decide)) (by decide)) (by decide)) (by decide)) (by decide)), TMm.item (xi := x1) (xc := x10) hT hx him ex1 (show _ = (F 102 (Int32.toNatClampNeg x)).toInt + 1 from by omega) rfl rfl rfl rfl rfl rfl rfl (by first | exact Or.inl ⟨show (F 104 (Int32.toNatClampNeg x)).toInt = -9 from by omega, rfl, rfl⟩ | exact Or.inr ⟨show ¬ (F 104 (Int32.toNatClampNeg x)).toInt = -9 from by omega, rfl, rfl⟩) rfl rfl rfl rfl rfl rfl rfl (show Int32.toInt x2 = _ from by omega), (show Int32.toInt x2 = _ from by omega), fun c => (h2u c).1, (h2u _).2 rfl⟩
