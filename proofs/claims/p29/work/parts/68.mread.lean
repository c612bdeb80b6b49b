set_option maxRecDepth 20000 in
theorem cw_X10_346 : CwV RX10 346 yX10_readAll cX10_readAll 6 (some .boolean) 2 := ⟨wm 1349 (by decide +kernel) rfl, wm 1351 (by decide +kernel) rfl, wms 41 (by decide +kernel) rfl, wm 11 (by decide +kernel) rfl, wm 1352 rfl rfl, by decide +kernel⟩
theorem dX10_read_0 : decode cX10_read 0 = .ok (.aload_n 0, 1) := by decide +kernel
theorem dX10_read_1 : decode cX10_read 1 = .ok (.aload_n 0, 1) := by decide +kernel
theorem dX10_read_2 : decode cX10_read 2 = .ok (.getfield 29, 3) := by decide +kernel
theorem dX10_read_5 : decode cX10_read 5 = .ok (.aload_n 0, 1) := by decide +kernel
theorem dX10_read_6 : decode cX10_read 6 = .ok (.getfield 219, 3) := by decide +kernel
theorem dX10_read_9 : decode cX10_read 9 = .ok (.invokevirtual 346, 3) := by decide +kernel
theorem dX10_read_12 : decode cX10_read 12 = .ok (.istore_n 1, 1) := by decide +kernel
theorem dX10_read_13 : decode cX10_read 13 = .ok (.aload_n 0, 1) := by decide +kernel
theorem dX10_read_14 : decode cX10_read 14 = .ok (.iload_n 1, 1) := by decide +kernel
theorem dX10_read_15 : decode cX10_read 15 = .ok (.ifCond .eq 7, 3) := by decide +kernel
theorem dX10_read_22 : decode cX10_read 22 = .ok (.iconst 2, 1) := by decide +kernel
theorem dX10_read_23 : decode cX10_read 23 = .ok (.putfield 211, 3) := by decide +kernel
theorem dX10_read_26 : decode cX10_read 26 = .ok (.aload_n 0, 1) := by decide +kernel
theorem dX10_read_27 : decode cX10_read 27 = .ok (.getfield 36, 3) := by decide +kernel
theorem dX10_read_30 : decode cX10_read 30 = .ok (.iconst 0, 1) := by decide +kernel
theorem dX10_read_31 : decode cX10_read 31 = .ok (.aload_n 0, 1) := by decide +kernel
theorem dX10_read_32 : decode cX10_read 32 = .ok (.getfield 245, 3) := by decide +kernel
theorem dX10_read_35 : decode cX10_read 35 = .ok (.iastore, 1) := by decide +kernel
theorem dX10_read_36 : decode cX10_read 36 = .ok (.aload_n 0, 1) := by decide +kernel
theorem dX10_read_37 : decode cX10_read 37 = .ok (.getfield 36, 3) := by decide +kernel
theorem dX10_read_40 : decode cX10_read 40 = .ok (.iconst 1, 1) := by decide +kernel
theorem dX10_read_41 : decode cX10_read 41 = .ok (.aload_n 0, 1) := by decide +kernel
theorem dX10_read_42 : decode cX10_read 42 = .ok (.getfield 248, 3) := by decide +kernel
theorem dX10_read_45 : decode cX10_read 45 = .ok (.iastore, 1) := by decide +kernel
theorem dX10_read_46 : decode cX10_read 46 = .ok (.aload_n 0, 1) := by decide +kernel
theorem dX10_read_47 : decode cX10_read 47 = .ok (.getfield 36, 3) := by decide +kernel
theorem dX10_read_50 : decode cX10_read 50 = .ok (.iconst 2, 1) := by decide +kernel
theorem dX10_read_51 : decode cX10_read 51 = .ok (.iload_n 1, 1) := by decide +kernel
theorem dX10_read_52 : decode cX10_read 52 = .ok (.ifCond .eq 8, 3) := by decide +kernel
theorem dX10_read_60 : decode cX10_read 60 = .ok (.aload_n 0, 1) := by decide +kernel
theorem dX10_read_61 : decode cX10_read 61 = .ok (.getfield 67, 3) := by decide +kernel
theorem dX10_read_64 : decode cX10_read 64 = .ok (.aload_n 0, 1) := by decide +kernel
theorem dX10_read_65 : decode cX10_read 65 = .ok (.getfield 248, 3) := by decide +kernel
theorem dX10_read_68 : decode cX10_read 68 = .ok (.iaload, 1) := by decide +kernel
theorem dX10_read_69 : decode cX10_read 69 = .ok (.iastore, 1) := by decide +kernel
theorem dX10_read_70 : decode cX10_read 70 = .ok (.aload_n 0, 1) := by decide +kernel
theorem dX10_read_71 : decode cX10_read 71 = .ok (.getfield 36, 3) := by decide +kernel
theorem dX10_read_74 : decode cX10_read 74 = .ok (.iconst 3, 1) := by decide +kernel
theorem dX10_read_75 : decode cX10_read 75 = .ok (.iload_n 1, 1) := by decide +kernel
theorem dX10_read_76 : decode cX10_read 76 = .ok (.ifCond .eq 8, 3) := by decide +kernel
theorem dX10_read_84 : decode cX10_read 84 = .ok (.aload_n 0, 1) := by decide +kernel
theorem dX10_read_85 : decode cX10_read 85 = .ok (.getfield 70, 3) := by decide +kernel
theorem dX10_read_88 : decode cX10_read 88 = .ok (.aload_n 0, 1) := by decide +kernel
theorem dX10_read_89 : decode cX10_read 89 = .ok (.getfield 248, 3) := by decide +kernel
theorem dX10_read_92 : decode cX10_read 92 = .ok (.iaload, 1) := by decide +kernel
theorem dX10_read_93 : decode cX10_read 93 = .ok (.iastore, 1) := by decide +kernel
theorem dX10_read_94 : decode cX10_read 94 = .ok (.iload_n 1, 1) := by decide +kernel
theorem dX10_read_95 : decode cX10_read 95 = .ok (.ifCond .eq 10, 3) := by decide +kernel
theorem dX10_read_105 : decode cX10_read 105 = .ok (.bipush (-100), 2) := by decide +kernel
theorem dX10_read_107 : decode cX10_read 107 = .ok (.aload_n 0, 1) := by decide +kernel
theorem dX10_read_108 : decode cX10_read 108 = .ok (.getfield 248, 3) := by decide +kernel
theorem dX10_read_111 : decode cX10_read 111 = .ok (.isub, 1) := by decide +kernel
theorem dX10_read_112 : decode cX10_read 112 = .ok (.ireturn, 1) := by decide +kernel
theorem dX10_read_98 : decode cX10_read 98 = .ok (.aload_n 0, 1) := by decide +kernel
theorem dX10_read_99 : decode cX10_read 99 = .ok (.getfield 258, 3) := by decide +kernel
theorem dX10_read_102 : decode cX10_read 102 = .ok (.goto 10, 3) := by decide +kernel
theorem dX10_read_79 : decode cX10_read 79 = .ok (.bipush (-9), 2) := by decide +kernel
theorem dX10_read_81 : decode cX10_read 81 = .ok (.goto 12, 3) := by decide +kernel
theorem dX10_read_55 : decode cX10_read 55 = .ok (.bipush (-9), 2) := by decide +kernel
theorem dX10_read_57 : decode cX10_read 57 = .ok (.goto 12, 3) := by decide +kernel
theorem dX10_read_18 : decode cX10_read 18 = .ok (.iconst 1, 1) := by decide +kernel
theorem dX10_read_19 : decode cX10_read 19 = .ok (.goto 4, 3) := by decide +kernel
set_option maxHeartbeats 4000000 in
set_option maxRecDepth 100000 in
theorem m_read (l : Launch) (D : va_G) (tA : Nat → ClassId) (b : Nat) (i F : Nat → Nat → Int32) (G : Nat → Nat → Int64)  (hI : IMm i F) (hBR : BR i) : xMI l yX10_read cX10_read 2 (some .int) 6 145 D tA b 78 52 i F G [.ref (b + 78)] (fun r u => IMm u.1 u.2.1 ∧ RO [11, 12, 13, 14, 15, 16, 17, 18, 19, 20, 21, 22, 23, 24, 25, 26, 27, 28, 29, 30, 31, 32, 33, 34, 35, 36, 37, 38, 39, 40, 41, 42, 43, 44, 45, 46, 47, 48, 49, 50, 51, 52, 53, 54, 55, 56, 57, 58, 59, 60, 61, 62, 63, 64, 65, 66, 67, 68, 69, 70, 71, 72, 73, 74, 75, 76, 77, 78] [85, 86, 87, 88, 89, 90, 91, 92, 93, 94, 95, 96, 97, 98, 99, 100, 101, 102, 103, 104, 105, 106, 107, 108, 109, 110, 111, 112, 113, 114, 115, 116, 117, 118, 119, 120, 121, 122, 123, 124, 125, 126, 127, 128, 129] i F G u) := by
  refine xstart RX10 rfl (by decide) (Nat.le_of_ble_eq_true rfl) ?_
  intro p e s m below meth c ls C0 hr hH hS hl
  have hl : lv_has ls 2 [(0, .ref (b + 78))] := hl
  have hI0 := hI
  obtain ⟨hsz, hbt, hks, hsrc, hTK, hCB, hWA, hwr, hmk, hG, hKA, hKI⟩ := hI0
  have hTKl := hTK.1

  refine lv_aload_n (pc := 0) C0.1 C0.2.1 dX10_read_0 rfl (lv_at hl 0 rfl) ?_
  refine lv_aload_n (pc := 1) C0.1 C0.2.1 dX10_read_1 rfl (lv_at hl 0 rfl) ?_
  refine xget (pc := 2) C0 hH 78 11 clX10 ⟨Nat.le_of_ble_eq_true rfl, Nat.le_of_ble_eq_true rfl⟩ ⟨rfl, rfl⟩ (Nat.le_of_ble_eq_true rfl) fl_X10_29 (v := .ref (b + 85)) rfl dX10_read_2 ?_
  refine lv_aload_n (pc := 5) C0.1 C0.2.1 dX10_read_5 rfl (lv_at hl 0 rfl) ?_
  refine xget (pc := 6) C0 hH 78 12 clX10 ⟨Nat.le_of_ble_eq_true rfl, Nat.le_of_ble_eq_true rfl⟩ ⟨rfl, rfl⟩ (Nat.le_of_ble_eq_true rfl) fl_X10_219 (v := .int (i 78 12)) rfl dX10_read_6 ?_
  refine xcVI (pc := 9) 78 [.ref (b + 85), .int (i 78 12)] (m_readAll_85 l D tA b i F G (i 78 12) (by omega) hTK.2.1 hCB hWA hBR) C0 hH hS clX10 rfl ⟨⟨Nat.le_of_ble_eq_true rfl, Nat.le_of_ble_eq_true rfl⟩, rfl, rfl⟩ cw_X10_346 rfl ⟨Nat.le_of_ble_eq_true rfl, Nat.le_of_ble_eq_true rfl⟩ hl.1 rfl (Nat.le_of_ble_eq_true rfl) dX10_read_9 ⟨Nat.le_of_ble_eq_true rfl, Nat.le_of_ble_eq_true rfl⟩ (fun r1 ir1 Fr1 Gr1 _ locs hp hH hS => ?_)
  obtain ⟨honr1, hTK, hTM, hCB, h01r1, hplr1, hsrc, hgtr1⟩ := hp
  have hTK : TKm ir1 Fr1 := hTK
  have hTM : TMm ir1 Fr1 := hTM
  have hCB : CB Fr1 := hCB
  have hsrc : ir1 78 17 = nI 85 := hsrc
  have hTKl := hTK.1
  have hTMl := TMm.lin hTM
  have hWA : WA Fr1 := TMm.wa hTM
  have hplr1 : r1 = 0 → 0 ≤ (ir1 78 31).toInt ∧ (ir1 78 31).toInt ≤ 600 := hplr1
  have hbt : BT (Fr1 85) := by rw [show Fr1 85 = F 85 from (honr1.2 85 (by decide)).1]; exact hbt
  have hKA : TA (Fr1 122) (Fr1 123) := by rw [show Fr1 122 = F 122 from (honr1.2 122 (by decide)).1, show Fr1 123 = F 123 from (honr1.2 123 (by decide)).1]; exact hKA
  have hKI : inR (Fr1 124) 0 1202 := by rw [show Fr1 124 = F 124 from (honr1.2 124 (by decide)).1]; exact hKI
  have hBR : BR ir1 := BR.ro (i := i) (F := F) hBR honr1 (by decide)
  have ek_12r1 : Int32.toInt (ir1 78 12) = Int32.toInt (i 78 12) := congrArg Int32.toInt (honr1.1 78 12 (Or.inr (by decide)))
  have ek_14r1 : Int32.toInt (ir1 78 14) = Int32.toInt (i 78 14) := congrArg Int32.toInt (honr1.1 78 14 (Or.inr (by decide)))
  have ek_54r1 : Int32.toInt (ir1 78 54) = Int32.toInt (i 78 54) := congrArg Int32.toInt (honr1.1 78 54 (Or.inr (by decide)))
  have ek_78r1 : Int32.toInt (ir1 78 78) = Int32.toInt (i 78 78) := congrArg Int32.toInt (honr1.1 78 78 (Or.inr (by decide)))
  refine lv_istore_n (pc := 12) (lv' := [(1, .int r1), (0, .ref (b + 78))]) C0.1 C0.2.1 dX10_read_12 rfl hl (by decide) rfl (fun ls hl => ?_)
  refine lv_aload_n (pc := 13) C0.1 C0.2.1 dX10_read_13 rfl (lv_at hl 1 rfl) ?_
  refine lv_iload_n (pc := 14) C0.1 C0.2.1 dX10_read_14 rfl (lv_at hl 0 rfl) ?_
  refine lv_if_eq (pc := 15) (tgt := 22) C0.1 C0.2.1 dX10_read_15 (by decide) (fun c2 => ?_) (fun c2 => ?_)
  · have : Int32.toInt 0 = 0 := rfl
    have c2 := congrArg Int32.toInt c2
    refine lv_iconst (pc := 22) (v := 2) C0.1 C0.2.1 dX10_read_22 (by decide) ?_
    refine xputI (pc := 23) C0 (Nat.le_of_ble_eq_true rfl) hH hS 78 15 clX10 ⟨Nat.le_of_ble_eq_true rfl, Nat.le_of_ble_eq_true rfl⟩ ⟨rfl, rfl⟩ ⟨Nat.le_of_ble_eq_true rfl, rfl, rfl⟩ fl_X10_211 (x := 2) ⟨rfl, rfl⟩ dX10_read_23 (fun _ locs hH hS _ => ?_)
    have hH : Hd D tA b 78 52 zz (up2 ir1 78 15 2) Fr1 Gr1 _ := hH
    refine lv_aload_n (pc := 26) C0.1 C0.2.1 dX10_read_26 rfl (lv_at hl 1 rfl) ?_
    refine xget (pc := 27) C0 hH 78 16 clX10 ⟨Nat.le_of_ble_eq_true rfl, Nat.le_of_ble_eq_true rfl⟩ ⟨rfl, rfl⟩ (Nat.le_of_ble_eq_true rfl) fl_X10_36 (v := .ref (b + 87)) rfl dX10_read_27 ?_
    refine lv_iconst (pc := 30) (v := 0) C0.1 C0.2.1 dX10_read_30 (by decide) ?_
    refine lv_aload_n (pc := 31) C0.1 C0.2.1 dX10_read_31 rfl (lv_at hl 1 rfl) ?_
    refine xget (pc := 32) C0 hH 78 30 clX10 ⟨Nat.le_of_ble_eq_true rfl, Nat.le_of_ble_eq_true rfl⟩ ⟨rfl, rfl⟩ (Nat.le_of_ble_eq_true rfl) fl_X10_245 (v := .int (ir1 78 30)) rfl dX10_read_32 ?_
    have : Int32.toInt 0 = 0 := rfl
    refine xiast (pc := 35) (N := 4) C0 (Nat.le_of_ble_eq_true rfl) hH hS 87 ⟨Nat.le_of_ble_eq_true rfl, Nat.le_of_ble_eq_true rfl⟩ ⟨rfl, rfl⟩ (vI (by omega) (by omega)) dX10_read_35 (fun _ locs hH hS _ => ?_)
    have hH : Hd D tA b 78 52 zz (up2 ir1 78 15 2) (va_up Fr1 87 (upd (Fr1 87) (Int32.toNatClampNeg 0) (ir1 78 30))) Gr1 _ := hH
    refine lv_aload_n (pc := 36) C0.1 C0.2.1 dX10_read_36 rfl (lv_at hl 1 rfl) ?_
    refine xget (pc := 37) C0 hH 78 16 clX10 ⟨Nat.le_of_ble_eq_true rfl, Nat.le_of_ble_eq_true rfl⟩ ⟨rfl, rfl⟩ (Nat.le_of_ble_eq_true rfl) fl_X10_36 (v := .ref (b + 87)) rfl dX10_read_37 ?_
    refine lv_iconst (pc := 40) (v := 1) C0.1 C0.2.1 dX10_read_40 (by decide) ?_
    refine lv_aload_n (pc := 41) C0.1 C0.2.1 dX10_read_41 rfl (lv_at hl 1 rfl) ?_
    refine xget (pc := 42) C0 hH 78 31 clX10 ⟨Nat.le_of_ble_eq_true rfl, Nat.le_of_ble_eq_true rfl⟩ ⟨rfl, rfl⟩ (Nat.le_of_ble_eq_true rfl) fl_X10_248 (v := .int (ir1 78 31)) rfl dX10_read_42 ?_
    have : Int32.toInt 1 = 1 := rfl
    refine xiast (pc := 45) (N := 4) C0 (Nat.le_of_ble_eq_true rfl) hH hS 87 ⟨Nat.le_of_ble_eq_true rfl, Nat.le_of_ble_eq_true rfl⟩ ⟨rfl, rfl⟩ (vI (by omega) (by omega)) dX10_read_45 (fun _ locs hH hS _ => ?_)
    have hH : Hd D tA b 78 52 zz (up2 ir1 78 15 2) (va_up (va_up Fr1 87 (upd (Fr1 87) (Int32.toNatClampNeg 0) (ir1 78 30))) 87 (upd (upd (Fr1 87) (Int32.toNatClampNeg 0) (ir1 78 30)) (Int32.toNatClampNeg 1) (ir1 78 31))) Gr1 _ := hH
    refine lv_aload_n (pc := 46) C0.1 C0.2.1 dX10_read_46 rfl (lv_at hl 1 rfl) ?_
    refine xget (pc := 47) C0 hH 78 16 clX10 ⟨Nat.le_of_ble_eq_true rfl, Nat.le_of_ble_eq_true rfl⟩ ⟨rfl, rfl⟩ (Nat.le_of_ble_eq_true rfl) fl_X10_36 (v := .ref (b + 87)) rfl dX10_read_47 ?_
    refine lv_iconst (pc := 50) (v := 2) C0.1 C0.2.1 dX10_read_50 (by decide) ?_
    refine lv_iload_n (pc := 51) C0.1 C0.2.1 dX10_read_51 rfl (lv_at hl 0 rfl) ?_
    refine lv_if_eq (pc := 52) (tgt := 60) C0.1 C0.2.1 dX10_read_52 (by decide) (fun c3 => ?_) (fun c3 => ?_)
    · have : Int32.toInt 0 = 0 := rfl
      have c3 := congrArg Int32.toInt c3
      have hpv := hplr1 (Int32.toInt_inj.mp (by assumption))
      refine lv_aload_n (pc := 60) C0.1 C0.2.1 dX10_read_60 rfl (lv_at hl 1 rfl) ?_
      refine xget (pc := 61) C0 hH 78 28 clX10 ⟨Nat.le_of_ble_eq_true rfl, Nat.le_of_ble_eq_true rfl⟩ ⟨rfl, rfl⟩ (Nat.le_of_ble_eq_true rfl) fl_X10_67 (v := .ref (b + 96)) rfl dX10_read_61 ?_
      refine lv_aload_n (pc := 64) C0.1 C0.2.1 dX10_read_64 rfl (lv_at hl 1 rfl) ?_
      refine xget (pc := 65) C0 hH 78 31 clX10 ⟨Nat.le_of_ble_eq_true rfl, Nat.le_of_ble_eq_true rfl⟩ ⟨rfl, rfl⟩ (Nat.le_of_ble_eq_true rfl) fl_X10_248 (v := .int (ir1 78 31)) rfl dX10_read_65 ?_
      refine xiald (pc := 68) (N := 601) C0 hH 96 ⟨Nat.le_of_ble_eq_true rfl, Nat.le_of_ble_eq_true rfl⟩ ⟨rfl, rfl⟩ (vI (by omega) (by omega)) dX10_read_68 ?_
      refine lv_topi (fun q4 eq4 => ?_)
      obtain rfl : q4 = Fr1 96 (Int32.toNatClampNeg (ir1 78 31)) := eq4.trans rfl
      have : Int32.toInt 2 = 2 := rfl
      refine xiast (pc := 69) (N := 4) C0 (Nat.le_of_ble_eq_true rfl) hH hS 87 ⟨Nat.le_of_ble_eq_true rfl, Nat.le_of_ble_eq_true rfl⟩ ⟨rfl, rfl⟩ (vI (by omega) (by omega)) dX10_read_69 (fun _ locs hH hS _ => ?_)
      have hH : Hd D tA b 78 52 zz (up2 ir1 78 15 2) (va_up (va_up (va_up Fr1 87 (upd (Fr1 87) (Int32.toNatClampNeg 0) (ir1 78 30))) 87 (upd (upd (Fr1 87) (Int32.toNatClampNeg 0) (ir1 78 30)) (Int32.toNatClampNeg 1) (ir1 78 31))) 87 (upd (upd (upd (Fr1 87) (Int32.toNatClampNeg 0) (ir1 78 30)) (Int32.toNatClampNeg 1) (ir1 78 31)) (Int32.toNatClampNeg 2) (Fr1 96 (Int32.toNatClampNeg (ir1 78 31))))) Gr1 _ := hH
      refine lv_aload_n (pc := 70) C0.1 C0.2.1 dX10_read_70 rfl (lv_at hl 1 rfl) ?_
      refine xget (pc := 71) C0 hH 78 16 clX10 ⟨Nat.le_of_ble_eq_true rfl, Nat.le_of_ble_eq_true rfl⟩ ⟨rfl, rfl⟩ (Nat.le_of_ble_eq_true rfl) fl_X10_36 (v := .ref (b + 87)) rfl dX10_read_71 ?_
      refine lv_iconst (pc := 74) (v := 3) C0.1 C0.2.1 dX10_read_74 (by decide) ?_
      refine lv_iload_n (pc := 75) C0.1 C0.2.1 dX10_read_75 rfl (lv_at hl 0 rfl) ?_
      refine lv_if_eq (pc := 76) (tgt := 84) C0.1 C0.2.1 dX10_read_76 (by decide) (fun c5 => ?_) (fun c5 => ?_)
      · have : Int32.toInt 0 = 0 := rfl
        have c5 := congrArg Int32.toInt c5
        have hpv := hplr1 (Int32.toInt_inj.mp (by assumption))
        refine lv_aload_n (pc := 84) C0.1 C0.2.1 dX10_read_84 rfl (lv_at hl 1 rfl) ?_
        refine xget (pc := 85) C0 hH 78 29 clX10 ⟨Nat.le_of_ble_eq_true rfl, Nat.le_of_ble_eq_true rfl⟩ ⟨rfl, rfl⟩ (Nat.le_of_ble_eq_true rfl) fl_X10_70 (v := .ref (b + 97)) rfl dX10_read_85 ?_
        refine lv_aload_n (pc := 88) C0.1 C0.2.1 dX10_read_88 rfl (lv_at hl 1 rfl) ?_
        refine xget (pc := 89) C0 hH 78 31 clX10 ⟨Nat.le_of_ble_eq_true rfl, Nat.le_of_ble_eq_true rfl⟩ ⟨rfl, rfl⟩ (Nat.le_of_ble_eq_true rfl) fl_X10_248 (v := .int (ir1 78 31)) rfl dX10_read_89 ?_
        refine xiald (pc := 92) (N := 601) C0 hH 97 ⟨Nat.le_of_ble_eq_true rfl, Nat.le_of_ble_eq_true rfl⟩ ⟨rfl, rfl⟩ (vI (by omega) (by omega)) dX10_read_92 ?_
        refine lv_topi (fun q6 eq6 => ?_)
        obtain rfl : q6 = Fr1 97 (Int32.toNatClampNeg (ir1 78 31)) := eq6.trans rfl
        have : Int32.toInt 3 = 3 := rfl
        refine xiast (pc := 93) (N := 4) C0 (Nat.le_of_ble_eq_true rfl) hH hS 87 ⟨Nat.le_of_ble_eq_true rfl, Nat.le_of_ble_eq_true rfl⟩ ⟨rfl, rfl⟩ (vI (by omega) (by omega)) dX10_read_93 (fun _ locs hH hS _ => ?_)
        have hH : Hd D tA b 78 52 zz (up2 ir1 78 15 2) (va_up (va_up (va_up (va_up Fr1 87 (upd (Fr1 87) (Int32.toNatClampNeg 0) (ir1 78 30))) 87 (upd (upd (Fr1 87) (Int32.toNatClampNeg 0) (ir1 78 30)) (Int32.toNatClampNeg 1) (ir1 78 31))) 87 (upd (upd (upd (Fr1 87) (Int32.toNatClampNeg 0) (ir1 78 30)) (Int32.toNatClampNeg 1) (ir1 78 31)) (Int32.toNatClampNeg 2) (Fr1 96 (Int32.toNatClampNeg (ir1 78 31))))) 87 (upd (upd (upd (upd (Fr1 87) (Int32.toNatClampNeg 0) (ir1 78 30)) (Int32.toNatClampNeg 1) (ir1 78 31)) (Int32.toNatClampNeg 2) (Fr1 96 (Int32.toNatClampNeg (ir1 78 31)))) (Int32.toNatClampNeg 3) (Fr1 97 (Int32.toNatClampNeg (ir1 78 31))))) Gr1 _ := hH
        refine lv_iload_n (pc := 94) C0.1 C0.2.1 dX10_read_94 rfl (lv_at hl 0 rfl) ?_
        refine lv_if_eq (pc := 95) (tgt := 105) C0.1 C0.2.1 dX10_read_95 (by decide) (fun c7 => ?_) (fun c7 => ?_)
        · have : Int32.toInt 0 = 0 := rfl
          have c7 := congrArg Int32.toInt c7
          refine lv_bipush (pc := 105) (v := (-100)) C0.1 C0.2.1 dX10_read_105 (by decide) ?_
          refine lv_aload_n (pc := 107) C0.1 C0.2.1 dX10_read_107 rfl (lv_at hl 1 rfl) ?_
          refine xget (pc := 108) C0 hH 78 31 clX10 ⟨Nat.le_of_ble_eq_true rfl, Nat.le_of_ble_eq_true rfl⟩ ⟨rfl, rfl⟩ (Nat.le_of_ble_eq_true rfl) fl_X10_248 (v := .int (ir1 78 31)) rfl dX10_read_108 ?_
          refine lv_isub (pc := 111) C0.1 C0.2.1 dX10_read_111 ?_
          exact xiret (pc := 112) C0 hr hH hS dX10_read_112 ⟨⟨(show 0 ≤ Int32.toInt (ir1 78 12) ∧ Int32.toInt (ir1 78 12) ≤ 600 from by omega), hbt, (show 0 ≤ Int32.toInt (ir1 78 14) ∧ Int32.toInt (ir1 78 14) ≤ 600 from by omega), hsrc, hTK, hCB, hWA, (show 0 ≤ Int32.toInt (ir1 78 54) ∧ Int32.toInt (ir1 78 54) ≤ 4000 from by omega), (show 0 ≤ Int32.toInt (ir1 78 78) ∧ Int32.toInt (ir1 78 78) ≤ 200 from by omega), (fun q => absurd q (show ¬ Int32.toInt 2 = 1 from by decide)), hKA, hKI⟩, (RO.f (RO.f (RO.f (RO.f (RO.i (RO.tr RO.rf honr1 (by decide) (by decide)) (by decide)) (by decide)) (by decide)) (by decide)) (by decide))⟩
        · have : Int32.toInt 0 = 0 := rfl
          have c7 : ¬ _ := fun q => c7 (Int32.toInt_inj.mp q)
          refine lv_aload_n (pc := 98) C0.1 C0.2.1 dX10_read_98 rfl (lv_at hl 1 rfl) ?_
          refine xget (pc := 99) C0 hH 78 19 clX10 ⟨Nat.le_of_ble_eq_true rfl, Nat.le_of_ble_eq_true rfl⟩ ⟨rfl, rfl⟩ (Nat.le_of_ble_eq_true rfl) fl_X10_258 (v := .int (ir1 78 19)) rfl dX10_read_99 ?_
          refine lv_goto (pc := 102) (tgt := 112) C0.1 C0.2.1 dX10_read_102 (by decide) ?_
          exact xiret (pc := 112) C0 hr hH hS dX10_read_112 ⟨⟨(show 0 ≤ Int32.toInt (ir1 78 12) ∧ Int32.toInt (ir1 78 12) ≤ 600 from by omega), hbt, (show 0 ≤ Int32.toInt (ir1 78 14) ∧ Int32.toInt (ir1 78 14) ≤ 600 from by omega), hsrc, hTK, hCB, hWA, (show 0 ≤ Int32.toInt (ir1 78 54) ∧ Int32.toInt (ir1 78 54) ≤ 4000 from by omega), (show 0 ≤ Int32.toInt (ir1 78 78) ∧ Int32.toInt (ir1 78 78) ≤ 200 from by omega), (fun q => absurd q (show ¬ Int32.toInt 2 = 1 from by decide)), hKA, hKI⟩, (RO.f (RO.f (RO.f (RO.f (RO.i (RO.tr RO.rf honr1 (by decide) (by decide)) (by decide)) (by decide)) (by decide)) (by decide)) (by decide))⟩
      · have : Int32.toInt 0 = 0 := rfl
        have c5 : ¬ _ := fun q => c5 (Int32.toInt_inj.mp q)
        refine lv_bipush (pc := 79) (v := (-9)) C0.1 C0.2.1 dX10_read_79 (by decide) ?_
        refine lv_goto (pc := 81) (tgt := 93) C0.1 C0.2.1 dX10_read_81 (by decide) ?_
        have : Int32.toInt 3 = 3 := rfl
        refine xiast (pc := 93) (N := 4) C0 (Nat.le_of_ble_eq_true rfl) hH hS 87 ⟨Nat.le_of_ble_eq_true rfl, Nat.le_of_ble_eq_true rfl⟩ ⟨rfl, rfl⟩ (vI (by omega) (by omega)) dX10_read_93 (fun _ locs hH hS _ => ?_)
        have hH : Hd D tA b 78 52 zz (up2 ir1 78 15 2) (va_up (va_up (va_up (va_up Fr1 87 (upd (Fr1 87) (Int32.toNatClampNeg 0) (ir1 78 30))) 87 (upd (upd (Fr1 87) (Int32.toNatClampNeg 0) (ir1 78 30)) (Int32.toNatClampNeg 1) (ir1 78 31))) 87 (upd (upd (upd (Fr1 87) (Int32.toNatClampNeg 0) (ir1 78 30)) (Int32.toNatClampNeg 1) (ir1 78 31)) (Int32.toNatClampNeg 2) (Fr1 96 (Int32.toNatClampNeg (ir1 78 31))))) 87 (upd (upd (upd (upd (Fr1 87) (Int32.toNatClampNeg 0) (ir1 78 30)) (Int32.toNatClampNeg 1) (ir1 78 31)) (Int32.toNatClampNeg 2) (Fr1 96 (Int32.toNatClampNeg (ir1 78 31)))) (Int32.toNatClampNeg 3) (-9))) Gr1 _ := hH
        refine lv_iload_n (pc := 94) C0.1 C0.2.1 dX10_read_94 rfl (lv_at hl 0 rfl) ?_
        refine lv_if_eq (pc := 95) (tgt := 105) C0.1 C0.2.1 dX10_read_95 (by decide) (fun c8 => ?_) (fun c8 => ?_)
        · have : Int32.toInt 0 = 0 := rfl
          have c8 := congrArg Int32.toInt c8
          refine lv_bipush (pc := 105) (v := (-100)) C0.1 C0.2.1 dX10_read_105 (by decide) ?_
          refine lv_aload_n (pc := 107) C0.1 C0.2.1 dX10_read_107 rfl (lv_at hl 1 rfl) ?_
          refine xget (pc := 108) C0 hH 78 31 clX10 ⟨Nat.le_of_ble_eq_true rfl, Nat.le_of_ble_eq_true rfl⟩ ⟨rfl, rfl⟩ (Nat.le_of_ble_eq_true rfl) fl_X10_248 (v := .int (ir1 78 31)) rfl dX10_read_108 ?_
          refine lv_isub (pc := 111) C0.1 C0.2.1 dX10_read_111 ?_
          exact xiret (pc := 112) C0 hr hH hS dX10_read_112 ⟨⟨(show 0 ≤ Int32.toInt (ir1 78 12) ∧ Int32.toInt (ir1 78 12) ≤ 600 from by omega), hbt, (show 0 ≤ Int32.toInt (ir1 78 14) ∧ Int32.toInt (ir1 78 14) ≤ 600 from by omega), hsrc, hTK, hCB, hWA, (show 0 ≤ Int32.toInt (ir1 78 54) ∧ Int32.toInt (ir1 78 54) ≤ 4000 from by omega), (show 0 ≤ Int32.toInt (ir1 78 78) ∧ Int32.toInt (ir1 78 78) ≤ 200 from by omega), (fun q => absurd q (show ¬ Int32.toInt 2 = 1 from by decide)), hKA, hKI⟩, (RO.f (RO.f (RO.f (RO.f (RO.i (RO.tr RO.rf honr1 (by decide) (by decide)) (by decide)) (by decide)) (by decide)) (by decide)) (by decide))⟩
        · have : Int32.toInt 0 = 0 := rfl
          have c8 : ¬ _ := fun q => c8 (Int32.toInt_inj.mp q)
          refine lv_aload_n (pc := 98) C0.1 C0.2.1 dX10_read_98 rfl (lv_at hl 1 rfl) ?_
          refine xget (pc := 99) C0 hH 78 19 clX10 ⟨Nat.le_of_ble_eq_true rfl, Nat.le_of_ble_eq_true rfl⟩ ⟨rfl, rfl⟩ (Nat.le_of_ble_eq_true rfl) fl_X10_258 (v := .int (ir1 78 19)) rfl dX10_read_99 ?_
          refine lv_goto (pc := 102) (tgt := 112) C0.1 C0.2.1 dX10_read_102 (by decide) ?_
          exact xiret (pc := 112) C0 hr hH hS dX10_read_112 ⟨⟨(show 0 ≤ Int32.toInt (ir1 78 12) ∧ Int32.toInt (ir1 78 12) ≤ 600 from by omega), hbt, (show 0 ≤ Int32.toInt (ir1 78 14) ∧ Int32.toInt (ir1 78 14) ≤ 600 from by omega), hsrc, hTK, hCB, hWA, (show 0 ≤ Int32.toInt (ir1 78 54) ∧ Int32.toInt (ir1 78 54) ≤ 4000 from by omega), (show 0 ≤ Int32.toInt (ir1 78 78) ∧ Int32.toInt (ir1 78 78) ≤ 200 from by omega), (fun q => absurd q (show ¬ Int32.toInt 2 = 1 from by decide)), hKA, hKI⟩, (RO.f (RO.f (RO.f (RO.f (RO.i (RO.tr RO.rf honr1 (by decide) (by decide)) (by decide)) (by decide)) (by decide)) (by decide)) (by decide))⟩
    · have : Int32.toInt 0 = 0 := rfl
      have c3 : ¬ _ := fun q => c3 (Int32.toInt_inj.mp q)
      refine lv_bipush (pc := 55) (v := (-9)) C0.1 C0.2.1 dX10_read_55 (by decide) ?_
      refine lv_goto (pc := 57) (tgt := 69) C0.1 C0.2.1 dX10_read_57 (by decide) ?_
      have : Int32.toInt 2 = 2 := rfl
      refine xiast (pc := 69) (N := 4) C0 (Nat.le_of_ble_eq_true rfl) hH hS 87 ⟨Nat.le_of_ble_eq_true rfl, Nat.le_of_ble_eq_true rfl⟩ ⟨rfl, rfl⟩ (vI (by omega) (by omega)) dX10_read_69 (fun _ locs hH hS _ => ?_)
      have hH : Hd D tA b 78 52 zz (up2 ir1 78 15 2) (va_up (va_up (va_up Fr1 87 (upd (Fr1 87) (Int32.toNatClampNeg 0) (ir1 78 30))) 87 (upd (upd (Fr1 87) (Int32.toNatClampNeg 0) (ir1 78 30)) (Int32.toNatClampNeg 1) (ir1 78 31))) 87 (upd (upd (upd (Fr1 87) (Int32.toNatClampNeg 0) (ir1 78 30)) (Int32.toNatClampNeg 1) (ir1 78 31)) (Int32.toNatClampNeg 2) (-9))) Gr1 _ := hH
      refine lv_aload_n (pc := 70) C0.1 C0.2.1 dX10_read_70 rfl (lv_at hl 1 rfl) ?_
      refine xget (pc := 71) C0 hH 78 16 clX10 ⟨Nat.le_of_ble_eq_true rfl, Nat.le_of_ble_eq_true rfl⟩ ⟨rfl, rfl⟩ (Nat.le_of_ble_eq_true rfl) fl_X10_36 (v := .ref (b + 87)) rfl dX10_read_71 ?_
      refine lv_iconst (pc := 74) (v := 3) C0.1 C0.2.1 dX10_read_74 (by decide) ?_
      refine lv_iload_n (pc := 75) C0.1 C0.2.1 dX10_read_75 rfl (lv_at hl 0 rfl) ?_
      refine lv_if_eq (pc := 76) (tgt := 84) C0.1 C0.2.1 dX10_read_76 (by decide) (fun c9 => ?_) (fun c9 => ?_)
      · have : Int32.toInt 0 = 0 := rfl
        have c9 := congrArg Int32.toInt c9
        have hpv := hplr1 (Int32.toInt_inj.mp (by assumption))
        refine lv_aload_n (pc := 84) C0.1 C0.2.1 dX10_read_84 rfl (lv_at hl 1 rfl) ?_
        refine xget (pc := 85) C0 hH 78 29 clX10 ⟨Nat.le_of_ble_eq_true rfl, Nat.le_of_ble_eq_true rfl⟩ ⟨rfl, rfl⟩ (Nat.le_of_ble_eq_true rfl) fl_X10_70 (v := .ref (b + 97)) rfl dX10_read_85 ?_
        refine lv_aload_n (pc := 88) C0.1 C0.2.1 dX10_read_88 rfl (lv_at hl 1 rfl) ?_
        refine xget (pc := 89) C0 hH 78 31 clX10 ⟨Nat.le_of_ble_eq_true rfl, Nat.le_of_ble_eq_true rfl⟩ ⟨rfl, rfl⟩ (Nat.le_of_ble_eq_true rfl) fl_X10_248 (v := .int (ir1 78 31)) rfl dX10_read_89 ?_
        refine xiald (pc := 92) (N := 601) C0 hH 97 ⟨Nat.le_of_ble_eq_true rfl, Nat.le_of_ble_eq_true rfl⟩ ⟨rfl, rfl⟩ (vI (by omega) (by omega)) dX10_read_92 ?_
        refine lv_topi (fun q10 eq10 => ?_)
        obtain rfl : q10 = Fr1 97 (Int32.toNatClampNeg (ir1 78 31)) := eq10.trans rfl
        have : Int32.toInt 3 = 3 := rfl
        refine xiast (pc := 93) (N := 4) C0 (Nat.le_of_ble_eq_true rfl) hH hS 87 ⟨Nat.le_of_ble_eq_true rfl, Nat.le_of_ble_eq_true rfl⟩ ⟨rfl, rfl⟩ (vI (by omega) (by omega)) dX10_read_93 (fun _ locs hH hS _ => ?_)
        have hH : Hd D tA b 78 52 zz (up2 ir1 78 15 2) (va_up (va_up (va_up (va_up Fr1 87 (upd (Fr1 87) (Int32.toNatClampNeg 0) (ir1 78 30))) 87 (upd (upd (Fr1 87) (Int32.toNatClampNeg 0) (ir1 78 30)) (Int32.toNatClampNeg 1) (ir1 78 31))) 87 (upd (upd (upd (Fr1 87) (Int32.toNatClampNeg 0) (ir1 78 30)) (Int32.toNatClampNeg 1) (ir1 78 31)) (Int32.toNatClampNeg 2) (-9))) 87 (upd (upd (upd (upd (Fr1 87) (Int32.toNatClampNeg 0) (ir1 78 30)) (Int32.toNatClampNeg 1) (ir1 78 31)) (Int32.toNatClampNeg 2) (-9)) (Int32.toNatClampNeg 3) (Fr1 97 (Int32.toNatClampNeg (ir1 78 31))))) Gr1 _ := hH
        refine lv_iload_n (pc := 94) C0.1 C0.2.1 dX10_read_94 rfl (lv_at hl 0 rfl) ?_
        refine lv_if_eq (pc := 95) (tgt := 105) C0.1 C0.2.1 dX10_read_95 (by decide) (fun c11 => ?_) (fun c11 => ?_)
        · have : Int32.toInt 0 = 0 := rfl
          have c11 := congrArg Int32.toInt c11
          refine lv_bipush (pc := 105) (v := (-100)) C0.1 C0.2.1 dX10_read_105 (by decide) ?_
          refine lv_aload_n (pc := 107) C0.1 C0.2.1 dX10_read_107 rfl (lv_at hl 1 rfl) ?_
          refine xget (pc := 108) C0 hH 78 31 clX10 ⟨Nat.le_of_ble_eq_true rfl, Nat.le_of_ble_eq_true rfl⟩ ⟨rfl, rfl⟩ (Nat.le_of_ble_eq_true rfl) fl_X10_248 (v := .int (ir1 78 31)) rfl dX10_read_108 ?_
          refine lv_isub (pc := 111) C0.1 C0.2.1 dX10_read_111 ?_
          exact xiret (pc := 112) C0 hr hH hS dX10_read_112 ⟨⟨(show 0 ≤ Int32.toInt (ir1 78 12) ∧ Int32.toInt (ir1 78 12) ≤ 600 from by omega), hbt, (show 0 ≤ Int32.toInt (ir1 78 14) ∧ Int32.toInt (ir1 78 14) ≤ 600 from by omega), hsrc, hTK, hCB, hWA, (show 0 ≤ Int32.toInt (ir1 78 54) ∧ Int32.toInt (ir1 78 54) ≤ 4000 from by omega), (show 0 ≤ Int32.toInt (ir1 78 78) ∧ Int32.toInt (ir1 78 78) ≤ 200 from by omega), (fun q => absurd q (show ¬ Int32.toInt 2 = 1 from by decide)), hKA, hKI⟩, (RO.f (RO.f (RO.f (RO.f (RO.i (RO.tr RO.rf honr1 (by decide) (by decide)) (by decide)) (by decide)) (by decide)) (by decide)) (by decide))⟩
        · have : Int32.toInt 0 = 0 := rfl
          have c11 : ¬ _ := fun q => c11 (Int32.toInt_inj.mp q)
          refine lv_aload_n (pc := 98) C0.1 C0.2.1 dX10_read_98 rfl (lv_at hl 1 rfl) ?_
          refine xget (pc := 99) C0 hH 78 19 clX10 ⟨Nat.le_of_ble_eq_true rfl, Nat.le_of_ble_eq_true rfl⟩ ⟨rfl, rfl⟩ (Nat.le_of_ble_eq_true rfl) fl_X10_258 (v := .int (ir1 78 19)) rfl dX10_read_99 ?_
          refine lv_goto (pc := 102) (tgt := 112) C0.1 C0.2.1 dX10_read_102 (by decide) ?_
          exact xiret (pc := 112) C0 hr hH hS dX10_read_112 ⟨⟨(show 0 ≤ Int32.toInt (ir1 78 12) ∧ Int32.toInt (ir1 78 12) ≤ 600 from by omega), hbt, (show 0 ≤ Int32.toInt (ir1 78 14) ∧ Int32.toInt (ir1 78 14) ≤ 600 from by omega), hsrc, hTK, hCB, hWA, (show 0 ≤ Int32.toInt (ir1 78 54) ∧ Int32.toInt (ir1 78 54) ≤ 4000 from by omega), (show 0 ≤ Int32.toInt (ir1 78 78) ∧ Int32.toInt (ir1 78 78) ≤ 200 from by omega), (fun q => absurd q (show ¬ Int32.toInt 2 = 1 from by decide)), hKA, hKI⟩, (RO.f (RO.f (RO.f (RO.f (RO.i (RO.tr RO.rf honr1 (by decide) (by decide)) (by decide)) (by decide)) (by decide)) (by decide)) (by decide))⟩
      · have : Int32.toInt 0 = 0 := rfl
        have c9 : ¬ _ := fun q => c9 (Int32.toInt_inj.mp q)
        refine lv_bipush (pc := 79) (v := (-9)) C0.1 C0.2.1 dX10_read_79 (by decide) ?_
        refine lv_goto (pc := 81) (tgt := 93) C0.1 C0.2.1 dX10_read_81 (by decide) ?_
        have : Int32.toInt 3 = 3 := rfl
        refine xiast (pc := 93) (N := 4) C0 (Nat.le_of_ble_eq_true rfl) hH hS 87 ⟨Nat.le_of_ble_eq_true rfl, Nat.le_of_ble_eq_true rfl⟩ ⟨rfl, rfl⟩ (vI (by omega) (by omega)) dX10_read_93 (fun _ locs hH hS _ => ?_)
        have hH : Hd D tA b 78 52 zz (up2 ir1 78 15 2) (va_up (va_up (va_up (va_up Fr1 87 (upd (Fr1 87) (Int32.toNatClampNeg 0) (ir1 78 30))) 87 (upd (upd (Fr1 87) (Int32.toNatClampNeg 0) (ir1 78 30)) (Int32.toNatClampNeg 1) (ir1 78 31))) 87 (upd (upd (upd (Fr1 87) (Int32.toNatClampNeg 0) (ir1 78 30)) (Int32.toNatClampNeg 1) (ir1 78 31)) (Int32.toNatClampNeg 2) (-9))) 87 (upd (upd (upd (upd (Fr1 87) (Int32.toNatClampNeg 0) (ir1 78 30)) (Int32.toNatClampNeg 1) (ir1 78 31)) (Int32.toNatClampNeg 2) (-9)) (Int32.toNatClampNeg 3) (-9))) Gr1 _ := hH
        refine lv_iload_n (pc := 94) C0.1 C0.2.1 dX10_read_94 rfl (lv_at hl 0 rfl) ?_
        refine lv_if_eq (pc := 95) (tgt := 105) C0.1 C0.2.1 dX10_read_95 (by decide) (fun c12 => ?_) (fun c12 => ?_)
        · have : Int32.toInt 0 = 0 := rfl
          have c12 := congrArg Int32.toInt c12
          refine lv_bipush (pc := 105) (v := (-100)) C0.1 C0.2.1 dX10_read_105 (by decide) ?_
          refine lv_aload_n (pc := 107) C0.1 C0.2.1 dX10_read_107 rfl (lv_at hl 1 rfl) ?_
          refine xget (pc := 108) C0 hH 78 31 clX10 ⟨Nat.le_of_ble_eq_true rfl, Nat.le_of_ble_eq_true rfl⟩ ⟨rfl, rfl⟩ (Nat.le_of_ble_eq_true rfl) fl_X10_248 (v := .int (ir1 78 31)) rfl dX10_read_108 ?_
          refine lv_isub (pc := 111) C0.1 C0.2.1 dX10_read_111 ?_
          exact xiret (pc := 112) C0 hr hH hS dX10_read_112 ⟨⟨(show 0 ≤ Int32.toInt (ir1 78 12) ∧ Int32.toInt (ir1 78 12) ≤ 600 from by omega), hbt, (show 0 ≤ Int32.toInt (ir1 78 14) ∧ Int32.toInt (ir1 78 14) ≤ 600 from by omega), hsrc, hTK, hCB, hWA, (show 0 ≤ Int32.toInt (ir1 78 54) ∧ Int32.toInt (ir1 78 54) ≤ 4000 from by omega), (show 0 ≤ Int32.toInt (ir1 78 78) ∧ Int32.toInt (ir1 78 78) ≤ 200 from by omega), (fun q => absurd q (show ¬ Int32.toInt 2 = 1 from by decide)), hKA, hKI⟩, (RO.f (RO.f (RO.f (RO.f (RO.i (RO.tr RO.rf honr1 (by decide) (by decide)) (by decide)) (by decide)) (by decide)) (by decide)) (by decide))⟩
        · have : Int32.toInt 0 = 0 := rfl
          have c12 : ¬ _ := fun q => c12 (Int32.toInt_inj.mp q)
          refine lv_aload_n (pc := 98) C0.1 C0.2.1 dX10_read_98 rfl (lv_at hl 1 rfl) ?_
          refine xget (pc := 99) C0 hH 78 19 clX10 ⟨Nat.le_of_ble_eq_true rfl, Nat.le_of_ble_eq_true rfl⟩ ⟨rfl, rfl⟩ (Nat.le_of_ble_eq_true rfl) fl_X10_258 (v := .int (ir1 78 19)) rfl dX10_read_99 ?_
          refine lv_goto (pc := 102) (tgt := 112) C0.1 C0.2.1 dX10_read_102 (by decide) ?_
          exact xiret (pc := 112) C0 hr hH hS dX10_read_112 ⟨⟨(show 0 ≤ Int32.toInt (ir1 78 12) ∧ Int32.toInt (ir1 78 12) ≤ 600 from by omega), hbt, (show 0 ≤ Int32.toInt (ir1 78 14) ∧ Int32.toInt (ir1 78 14) ≤ 600 from by omega), hsrc, hTK, hCB, hWA, (show 0 ≤ Int32.toInt (ir1 78 54) ∧ Int32.toInt (ir1 78 54) ≤ 4000 from by omega), (show 0 ≤ Int32.toInt (ir1 78 78) ∧ Int32.toInt (ir1 78 78) ≤ 200 from by omega), (fun q => absurd q (show ¬ Int32.toInt 2 = 1 from by decide)), hKA, hKI⟩, (RO.f (RO.f (RO.f (RO.f (RO.i (RO.tr RO.rf honr1 (by decide) (by decide)) (by decide)) (by decide)) (by decide)) (by decide)) (by decide))⟩
  · have : Int32.toInt 0 = 0 := rfl
    have c2 : ¬ _ := fun q => c2 (Int32.toInt_inj.mp q)
    refine lv_iconst (pc := 18) (v := 1) C0.1 C0.2.1 dX10_read_18 (by decide) ?_
    refine lv_goto (pc := 19) (tgt := 23) C0.1 C0.2.1 dX10_read_19 (by decide) ?_
    refine xputI (pc := 23) C0 (Nat.le_of_ble_eq_true rfl) hH hS 78 15 clX10 ⟨Nat.le_of_ble_eq_true rfl, Nat.le_of_ble_eq_true rfl⟩ ⟨rfl, rfl⟩ ⟨Nat.le_of_ble_eq_true rfl, rfl, rfl⟩ fl_X10_211 (x := 1) ⟨rfl, rfl⟩ dX10_read_23 (fun _ locs hH hS _ => ?_)
    have hH : Hd D tA b 78 52 zz (up2 ir1 78 15 1) Fr1 Gr1 _ := hH
    refine lv_aload_n (pc := 26) C0.1 C0.2.1 dX10_read_26 rfl (lv_at hl 1 rfl) ?_
    refine xget (pc := 27) C0 hH 78 16 clX10 ⟨Nat.le_of_ble_eq_true rfl, Nat.le_of_ble_eq_true rfl⟩ ⟨rfl, rfl⟩ (Nat.le_of_ble_eq_true rfl) fl_X10_36 (v := .ref (b + 87)) rfl dX10_read_27 ?_
    refine lv_iconst (pc := 30) (v := 0) C0.1 C0.2.1 dX10_read_30 (by decide) ?_
    refine lv_aload_n (pc := 31) C0.1 C0.2.1 dX10_read_31 rfl (lv_at hl 1 rfl) ?_
    refine xget (pc := 32) C0 hH 78 30 clX10 ⟨Nat.le_of_ble_eq_true rfl, Nat.le_of_ble_eq_true rfl⟩ ⟨rfl, rfl⟩ (Nat.le_of_ble_eq_true rfl) fl_X10_245 (v := .int (ir1 78 30)) rfl dX10_read_32 ?_
    have : Int32.toInt 0 = 0 := rfl
    refine xiast (pc := 35) (N := 4) C0 (Nat.le_of_ble_eq_true rfl) hH hS 87 ⟨Nat.le_of_ble_eq_true rfl, Nat.le_of_ble_eq_true rfl⟩ ⟨rfl, rfl⟩ (vI (by omega) (by omega)) dX10_read_35 (fun _ locs hH hS _ => ?_)
    have hH : Hd D tA b 78 52 zz (up2 ir1 78 15 1) (va_up Fr1 87 (upd (Fr1 87) (Int32.toNatClampNeg 0) (ir1 78 30))) Gr1 _ := hH
    refine lv_aload_n (pc := 36) C0.1 C0.2.1 dX10_read_36 rfl (lv_at hl 1 rfl) ?_
    refine xget (pc := 37) C0 hH 78 16 clX10 ⟨Nat.le_of_ble_eq_true rfl, Nat.le_of_ble_eq_true rfl⟩ ⟨rfl, rfl⟩ (Nat.le_of_ble_eq_true rfl) fl_X10_36 (v := .ref (b + 87)) rfl dX10_read_37 ?_
    refine lv_iconst (pc := 40) (v := 1) C0.1 C0.2.1 dX10_read_40 (by decide) ?_
    refine lv_aload_n (pc := 41) C0.1 C0.2.1 dX10_read_41 rfl (lv_at hl 1 rfl) ?_
    refine xget (pc := 42) C0 hH 78 31 clX10 ⟨Nat.le_of_ble_eq_true rfl, Nat.le_of_ble_eq_true rfl⟩ ⟨rfl, rfl⟩ (Nat.le_of_ble_eq_true rfl) fl_X10_248 (v := .int (ir1 78 31)) rfl dX10_read_42 ?_
    have : Int32.toInt 1 = 1 := rfl
    refine xiast (pc := 45) (N := 4) C0 (Nat.le_of_ble_eq_true rfl) hH hS 87 ⟨Nat.le_of_ble_eq_true rfl, Nat.le_of_ble_eq_true rfl⟩ ⟨rfl, rfl⟩ (vI (by omega) (by omega)) dX10_read_45 (fun _ locs hH hS _ => ?_)
    have hH : Hd D tA b 78 52 zz (up2 ir1 78 15 1) (va_up (va_up Fr1 87 (upd (Fr1 87) (Int32.toNatClampNeg 0) (ir1 78 30))) 87 (upd (upd (Fr1 87) (Int32.toNatClampNeg 0) (ir1 78 30)) (Int32.toNatClampNeg 1) (ir1 78 31))) Gr1 _ := hH
    refine lv_aload_n (pc := 46) C0.1 C0.2.1 dX10_read_46 rfl (lv_at hl 1 rfl) ?_
    refine xget (pc := 47) C0 hH 78 16 clX10 ⟨Nat.le_of_ble_eq_true rfl, Nat.le_of_ble_eq_true rfl⟩ ⟨rfl, rfl⟩ (Nat.le_of_ble_eq_true rfl) fl_X10_36 (v := .ref (b + 87)) rfl dX10_read_47 ?_
    refine lv_iconst (pc := 50) (v := 2) C0.1 C0.2.1 dX10_read_50 (by decide) ?_
    refine lv_iload_n (pc := 51) C0.1 C0.2.1 dX10_read_51 rfl (lv_at hl 0 rfl) ?_
    refine lv_if_eq (pc := 52) (tgt := 60) C0.1 C0.2.1 dX10_read_52 (by decide) (fun c13 => ?_) (fun c13 => ?_)
    · have : Int32.toInt 0 = 0 := rfl
      have c13 := congrArg Int32.toInt c13
      have hpv := hplr1 (Int32.toInt_inj.mp (by assumption))
      refine lv_aload_n (pc := 60) C0.1 C0.2.1 dX10_read_60 rfl (lv_at hl 1 rfl) ?_
      refine xget (pc := 61) C0 hH 78 28 clX10 ⟨Nat.le_of_ble_eq_true rfl, Nat.le_of_ble_eq_true rfl⟩ ⟨rfl, rfl⟩ (Nat.le_of_ble_eq_true rfl) fl_X10_67 (v := .ref (b + 96)) rfl dX10_read_61 ?_
      refine lv_aload_n (pc := 64) C0.1 C0.2.1 dX10_read_64 rfl (lv_at hl 1 rfl) ?_
      refine xget (pc := 65) C0 hH 78 31 clX10 ⟨Nat.le_of_ble_eq_true rfl, Nat.le_of_ble_eq_true rfl⟩ ⟨rfl, rfl⟩ (Nat.le_of_ble_eq_true rfl) fl_X10_248 (v := .int (ir1 78 31)) rfl dX10_read_65 ?_
      refine xiald (pc := 68) (N := 601) C0 hH 96 ⟨Nat.le_of_ble_eq_true rfl, Nat.le_of_ble_eq_true rfl⟩ ⟨rfl, rfl⟩ (vI (by omega) (by omega)) dX10_read_68 ?_
      refine lv_topi (fun q14 eq14 => ?_)
      obtain rfl : q14 = Fr1 96 (Int32.toNatClampNeg (ir1 78 31)) := eq14.trans rfl
      have : Int32.toInt 2 = 2 := rfl
      refine xiast (pc := 69) (N := 4) C0 (Nat.le_of_ble_eq_true rfl) hH hS 87 ⟨Nat.le_of_ble_eq_true rfl, Nat.le_of_ble_eq_true rfl⟩ ⟨rfl, rfl⟩ (vI (by omega) (by omega)) dX10_read_69 (fun _ locs hH hS _ => ?_)
      have hH : Hd D tA b 78 52 zz (up2 ir1 78 15 1) (va_up (va_up (va_up Fr1 87 (upd (Fr1 87) (Int32.toNatClampNeg 0) (ir1 78 30))) 87 (upd (upd (Fr1 87) (Int32.toNatClampNeg 0) (ir1 78 30)) (Int32.toNatClampNeg 1) (ir1 78 31))) 87 (upd (upd (upd (Fr1 87) (Int32.toNatClampNeg 0) (ir1 78 30)) (Int32.toNatClampNeg 1) (ir1 78 31)) (Int32.toNatClampNeg 2) (Fr1 96 (Int32.toNatClampNeg (ir1 78 31))))) Gr1 _ := hH
      refine lv_aload_n (pc := 70) C0.1 C0.2.1 dX10_read_70 rfl (lv_at hl 1 rfl) ?_
      refine xget (pc := 71) C0 hH 78 16 clX10 ⟨Nat.le_of_ble_eq_true rfl, Nat.le_of_ble_eq_true rfl⟩ ⟨rfl, rfl⟩ (Nat.le_of_ble_eq_true rfl) fl_X10_36 (v := .ref (b + 87)) rfl dX10_read_71 ?_
      refine lv_iconst (pc := 74) (v := 3) C0.1 C0.2.1 dX10_read_74 (by decide) ?_
      refine lv_iload_n (pc := 75) C0.1 C0.2.1 dX10_read_75 rfl (lv_at hl 0 rfl) ?_
      refine lv_if_eq (pc := 76) (tgt := 84) C0.1 C0.2.1 dX10_read_76 (by decide) (fun c15 => ?_) (fun c15 => ?_)
      · have : Int32.toInt 0 = 0 := rfl
        have c15 := congrArg Int32.toInt c15
        have hpv := hplr1 (Int32.toInt_inj.mp (by assumption))
        refine lv_aload_n (pc := 84) C0.1 C0.2.1 dX10_read_84 rfl (lv_at hl 1 rfl) ?_
        refine xget (pc := 85) C0 hH 78 29 clX10 ⟨Nat.le_of_ble_eq_true rfl, Nat.le_of_ble_eq_true rfl⟩ ⟨rfl, rfl⟩ (Nat.le_of_ble_eq_true rfl) fl_X10_70 (v := .ref (b + 97)) rfl dX10_read_85 ?_
        refine lv_aload_n (pc := 88) C0.1 C0.2.1 dX10_read_88 rfl (lv_at hl 1 rfl) ?_
        refine xget (pc := 89) C0 hH 78 31 clX10 ⟨Nat.le_of_ble_eq_true rfl, Nat.le_of_ble_eq_true rfl⟩ ⟨rfl, rfl⟩ (Nat.le_of_ble_eq_true rfl) fl_X10_248 (v := .int (ir1 78 31)) rfl dX10_read_89 ?_
        refine xiald (pc := 92) (N := 601) C0 hH 97 ⟨Nat.le_of_ble_eq_true rfl, Nat.le_of_ble_eq_true rfl⟩ ⟨rfl, rfl⟩ (vI (by omega) (by omega)) dX10_read_92 ?_
        refine lv_topi (fun q16 eq16 => ?_)
        obtain rfl : q16 = Fr1 97 (Int32.toNatClampNeg (ir1 78 31)) := eq16.trans rfl
        have : Int32.toInt 3 = 3 := rfl
        refine xiast (pc := 93) (N := 4) C0 (Nat.le_of_ble_eq_true rfl) hH hS 87 ⟨Nat.le_of_ble_eq_true rfl, Nat.le_of_ble_eq_true rfl⟩ ⟨rfl, rfl⟩ (vI (by omega) (by omega)) dX10_read_93 (fun _ locs hH hS _ => ?_)
        have hH : Hd D tA b 78 52 zz (up2 ir1 78 15 1) (va_up (va_up (va_up (va_up Fr1 87 (upd (Fr1 87) (Int32.toNatClampNeg 0) (ir1 78 30))) 87 (upd (upd (Fr1 87) (Int32.toNatClampNeg 0) (ir1 78 30)) (Int32.toNatClampNeg 1) (ir1 78 31))) 87 (upd (upd (upd (Fr1 87) (Int32.toNatClampNeg 0) (ir1 78 30)) (Int32.toNatClampNeg 1) (ir1 78 31)) (Int32.toNatClampNeg 2) (Fr1 96 (Int32.toNatClampNeg (ir1 78 31))))) 87 (upd (upd (upd (upd (Fr1 87) (Int32.toNatClampNeg 0) (ir1 78 30)) (Int32.toNatClampNeg 1) (ir1 78 31)) (Int32.toNatClampNeg 2) (Fr1 96 (Int32.toNatClampNeg (ir1 78 31)))) (Int32.toNatClampNeg 3) (Fr1 97 (Int32.toNatClampNeg (ir1 78 31))))) Gr1 _ := hH
        refine lv_iload_n (pc := 94) C0.1 C0.2.1 dX10_read_94 rfl (lv_at hl 0 rfl) ?_
        refine lv_if_eq (pc := 95) (tgt := 105) C0.1 C0.2.1 dX10_read_95 (by decide) (fun c17 => ?_) (fun c17 => ?_)
        · have : Int32.toInt 0 = 0 := rfl
          have c17 := congrArg Int32.toInt c17
          refine lv_bipush (pc := 105) (v := (-100)) C0.1 C0.2.1 dX10_read_105 (by decide) ?_
          refine lv_aload_n (pc := 107) C0.1 C0.2.1 dX10_read_107 rfl (lv_at hl 1 rfl) ?_
          refine xget (pc := 108) C0 hH 78 31 clX10 ⟨Nat.le_of_ble_eq_true rfl, Nat.le_of_ble_eq_true rfl⟩ ⟨rfl, rfl⟩ (Nat.le_of_ble_eq_true rfl) fl_X10_248 (v := .int (ir1 78 31)) rfl dX10_read_108 ?_
          refine lv_isub (pc := 111) C0.1 C0.2.1 dX10_read_111 ?_
          exact xiret (pc := 112) C0 hr hH hS dX10_read_112 ⟨⟨(show 0 ≤ Int32.toInt (ir1 78 12) ∧ Int32.toInt (ir1 78 12) ≤ 600 from by omega), hbt, (show 0 ≤ Int32.toInt (ir1 78 14) ∧ Int32.toInt (ir1 78 14) ≤ 600 from by omega), hsrc, hTK, hCB, hWA, (show 0 ≤ Int32.toInt (ir1 78 54) ∧ Int32.toInt (ir1 78 54) ≤ 4000 from by omega), (show 0 ≤ Int32.toInt (ir1 78 78) ∧ Int32.toInt (ir1 78 78) ≤ 200 from by omega), (fun _ => GTm.of hTM (hgtr1.elim id (fun q => absurd (congrArg Int32.toInt q.1) (by assumption)))), hKA, hKI⟩, (RO.f (RO.f (RO.f (RO.f (RO.i (RO.tr RO.rf honr1 (by decide) (by decide)) (by decide)) (by decide)) (by decide)) (by decide)) (by decide))⟩
        · have : Int32.toInt 0 = 0 := rfl
          have c17 : ¬ _ := fun q => c17 (Int32.toInt_inj.mp q)
          refine lv_aload_n (pc := 98) C0.1 C0.2.1 dX10_read_98 rfl (lv_at hl 1 rfl) ?_
          refine xget (pc := 99) C0 hH 78 19 clX10 ⟨Nat.le_of_ble_eq_true rfl, Nat.le_of_ble_eq_true rfl⟩ ⟨rfl, rfl⟩ (Nat.le_of_ble_eq_true rfl) fl_X10_258 (v := .int (ir1 78 19)) rfl dX10_read_99 ?_
          refine lv_goto (pc := 102) (tgt := 112) C0.1 C0.2.1 dX10_read_102 (by decide) ?_
          exact xiret (pc := 112) C0 hr hH hS dX10_read_112 ⟨⟨(show 0 ≤ Int32.toInt (ir1 78 12) ∧ Int32.toInt (ir1 78 12) ≤ 600 from by omega), hbt, (show 0 ≤ Int32.toInt (ir1 78 14) ∧ Int32.toInt (ir1 78 14) ≤ 600 from by omega), hsrc, hTK, hCB, hWA, (show 0 ≤ Int32.toInt (ir1 78 54) ∧ Int32.toInt (ir1 78 54) ≤ 4000 from by omega), (show 0 ≤ Int32.toInt (ir1 78 78) ∧ Int32.toInt (ir1 78 78) ≤ 200 from by omega), (fun _ => GTm.of hTM (hgtr1.elim id (fun q => absurd (congrArg Int32.toInt q.1) (by assumption)))), hKA, hKI⟩, (RO.f (RO.f (RO.f (RO.f (RO.i (RO.tr RO.rf honr1 (by decide) (by decide)) (by decide)) (by decide)) (by decide)) (by decide)) (by decide))⟩
      · have : Int32.toInt 0 = 0 := rfl
        have c15 : ¬ _ := fun q => c15 (Int32.toInt_inj.mp q)
        refine lv_bipush (pc := 79) (v := (-9)) C0.1 C0.2.1 dX10_read_79 (by decide) ?_
        refine lv_goto (pc := 81) (tgt := 93) C0.1 C0.2.1 dX10_read_81 (by decide) ?_
        have : Int32.toInt 3 = 3 := rfl
        refine xiast (pc := 93) (N := 4) C0 (Nat.le_of_ble_eq_true rfl) hH hS 87 ⟨Nat.le_of_ble_eq_true rfl, Nat.le_of_ble_eq_true rfl⟩ ⟨rfl, rfl⟩ (vI (by omega) (by omega)) dX10_read_93 (fun _ locs hH hS _ => ?_)
        have hH : Hd D tA b 78 52 zz (up2 ir1 78 15 1) (va_up (va_up (va_up (va_up Fr1 87 (upd (Fr1 87) (Int32.toNatClampNeg 0) (ir1 78 30))) 87 (upd (upd (Fr1 87) (Int32.toNatClampNeg 0) (ir1 78 30)) (Int32.toNatClampNeg 1) (ir1 78 31))) 87 (upd (upd (upd (Fr1 87) (Int32.toNatClampNeg 0) (ir1 78 30)) (Int32.toNatClampNeg 1) (ir1 78 31)) (Int32.toNatClampNeg 2) (Fr1 96 (Int32.toNatClampNeg (ir1 78 31))))) 87 (upd (upd (upd (upd (Fr1 87) (Int32.toNatClampNeg 0) (ir1 78 30)) (Int32.toNatClampNeg 1) (ir1 78 31)) (Int32.toNatClampNeg 2) (Fr1 96 (Int32.toNatClampNeg (ir1 78 31)))) (Int32.toNatClampNeg 3) (-9))) Gr1 _ := hH
        refine lv_iload_n (pc := 94) C0.1 C0.2.1 dX10_read_94 rfl (lv_at hl 0 rfl) ?_
        refine lv_if_eq (pc := 95) (tgt := 105) C0.1 C0.2.1 dX10_read_95 (by decide) (fun c18 => ?_) (fun c18 => ?_)
        · have : Int32.toInt 0 = 0 := rfl
          have c18 := congrArg Int32.toInt c18
          refine lv_bipush (pc := 105) (v := (-100)) C0.1 C0.2.1 dX10_read_105 (by decide) ?_
          refine lv_aload_n (pc := 107) C0.1 C0.2.1 dX10_read_107 rfl (lv_at hl 1 rfl) ?_
          refine xget (pc := 108) C0 hH 78 31 clX10 ⟨Nat.le_of_ble_eq_true rfl, Nat.le_of_ble_eq_true rfl⟩ ⟨rfl, rfl⟩ (Nat.le_of_ble_eq_true rfl) fl_X10_248 (v := .int (ir1 78 31)) rfl dX10_read_108 ?_
          refine lv_isub (pc := 111) C0.1 C0.2.1 dX10_read_111 ?_
          exact xiret (pc := 112) C0 hr hH hS dX10_read_112 ⟨⟨(show 0 ≤ Int32.toInt (ir1 78 12) ∧ Int32.toInt (ir1 78 12) ≤ 600 from by omega), hbt, (show 0 ≤ Int32.toInt (ir1 78 14) ∧ Int32.toInt (ir1 78 14) ≤ 600 from by omega), hsrc, hTK, hCB, hWA, (show 0 ≤ Int32.toInt (ir1 78 54) ∧ Int32.toInt (ir1 78 54) ≤ 4000 from by omega), (show 0 ≤ Int32.toInt (ir1 78 78) ∧ Int32.toInt (ir1 78 78) ≤ 200 from by omega), (fun _ => GTm.of hTM (hgtr1.elim id (fun q => absurd (congrArg Int32.toInt q.1) (by assumption)))), hKA, hKI⟩, (RO.f (RO.f (RO.f (RO.f (RO.i (RO.tr RO.rf honr1 (by decide) (by decide)) (by decide)) (by decide)) (by decide)) (by decide)) (by decide))⟩
        · have : Int32.toInt 0 = 0 := rfl
          have c18 : ¬ _ := fun q => c18 (Int32.toInt_inj.mp q)
          refine lv_aload_n (pc := 98) C0.1 C0.2.1 dX10_read_98 rfl (lv_at hl 1 rfl) ?_
          refine xget (pc := 99) C0 hH 78 19 clX10 ⟨Nat.le_of_ble_eq_true rfl, Nat.le_of_ble_eq_true rfl⟩ ⟨rfl, rfl⟩ (Nat.le_of_ble_eq_true rfl) fl_X10_258 (v := .int (ir1 78 19)) rfl dX10_read_99 ?_
          refine lv_goto (pc := 102) (tgt := 112) C0.1 C0.2.1 dX10_read_102 (by decide) ?_
          exact xiret (pc := 112) C0 hr hH hS dX10_read_112 ⟨⟨(show 0 ≤ Int32.toInt (ir1 78 12) ∧ Int32.toInt (ir1 78 12) ≤ 600 from by omega), hbt, (show 0 ≤ Int32.toInt (ir1 78 14) ∧ Int32.toInt (ir1 78 14) ≤ 600 from by omega), hsrc, hTK, hCB, hWA, (show 0 ≤ Int32.toInt (ir1 78 54) ∧ Int32.toInt (ir1 78 54) ≤ 4000 from by omega), (show 0 ≤ Int32.toInt (ir1 78 78) ∧ Int32.toInt (ir1 78 78) ≤ 200 from by omega), (fun _ => GTm.of hTM (hgtr1.elim id (fun q => absurd (congrArg Int32.toInt q.1) (by assumption)))), hKA, hKI⟩, (RO.f (RO.f (RO.f (RO.f (RO.i (RO.tr RO.rf honr1 (by decide) (by decide)) (by decide)) (by decide)) (by decide)) (by decide)) (by decide))⟩
    · have : Int32.toInt 0 = 0 := rfl
      have c13 : ¬ _ := fun q => c13 (Int32.toInt_inj.mp q)
      refine lv_bipush (pc := 55) (v := (-9)) C0.1 C0.2.1 dX10_read_55 (by decide) ?_
      refine lv_goto (pc := 57) (tgt := 69) C0.1 C0.2.1 dX10_read_57 (by decide) ?_
      have : Int32.toInt 2 = 2 := rfl
      refine xiast (pc := 69) (N := 4) C0 (Nat.le_of_ble_eq_true rfl) hH hS 87 ⟨Nat.le_of_ble_eq_true rfl, Nat.le_of_ble_eq_true rfl⟩ ⟨rfl, rfl⟩ (vI (by omega) (by omega)) dX10_read_69 (fun _ locs hH hS _ => ?_)
      have hH : Hd D tA b 78 52 zz (up2 ir1 78 15 1) (va_up (va_up (va_up Fr1 87 (upd (Fr1 87) (Int32.toNatClampNeg 0) (ir1 78 30))) 87 (upd (upd (Fr1 87) (Int32.toNatClampNeg 0) (ir1 78 30)) (Int32.toNatClampNeg 1) (ir1 78 31))) 87 (upd (upd (upd (Fr1 87) (Int32.toNatClampNeg 0) (ir1 78 30)) (Int32.toNatClampNeg 1) (ir1 78 31)) (Int32.toNatClampNeg 2) (-9))) Gr1 _ := hH
      refine lv_aload_n (pc := 70) C0.1 C0.2.1 dX10_read_70 rfl (lv_at hl 1 rfl) ?_
      refine xget (pc := 71) C0 hH 78 16 clX10 ⟨Nat.le_of_ble_eq_true rfl, Nat.le_of_ble_eq_true rfl⟩ ⟨rfl, rfl⟩ (Nat.le_of_ble_eq_true rfl) fl_X10_36 (v := .ref (b + 87)) rfl dX10_read_71 ?_
      refine lv_iconst (pc := 74) (v := 3) C0.1 C0.2.1 dX10_read_74 (by decide) ?_
      refine lv_iload_n (pc := 75) C0.1 C0.2.1 dX10_read_75 rfl (lv_at hl 0 rfl) ?_
      refine lv_if_eq (pc := 76) (tgt := 84) C0.1 C0.2.1 dX10_read_76 (by decide) (fun c19 => ?_) (fun c19 => ?_)
      · have : Int32.toInt 0 = 0 := rfl
        have c19 := congrArg Int32.toInt c19
        have hpv := hplr1 (Int32.toInt_inj.mp (by assumption))
        refine lv_aload_n (pc := 84) C0.1 C0.2.1 dX10_read_84 rfl (lv_at hl 1 rfl) ?_
        refine xget (pc := 85) C0 hH 78 29 clX10 ⟨Nat.le_of_ble_eq_true rfl, Nat.le_of_ble_eq_true rfl⟩ ⟨rfl, rfl⟩ (Nat.le_of_ble_eq_true rfl) fl_X10_70 (v := .ref (b + 97)) rfl dX10_read_85 ?_
        refine lv_aload_n (pc := 88) C0.1 C0.2.1 dX10_read_88 rfl (lv_at hl 1 rfl) ?_
        refine xget (pc := 89) C0 hH 78 31 clX10 ⟨Nat.le_of_ble_eq_true rfl, Nat.le_of_ble_eq_true rfl⟩ ⟨rfl, rfl⟩ (Nat.le_of_ble_eq_true rfl) fl_X10_248 (v := .int (ir1 78 31)) rfl dX10_read_89 ?_
        refine xiald (pc := 92) (N := 601) C0 hH 97 ⟨Nat.le_of_ble_eq_true rfl, Nat.le_of_ble_eq_true rfl⟩ ⟨rfl, rfl⟩ (vI (by omega) (by omega)) dX10_read_92 ?_
        refine lv_topi (fun q20 eq20 => ?_)
        obtain rfl : q20 = Fr1 97 (Int32.toNatClampNeg (ir1 78 31)) := eq20.trans rfl
        have : Int32.toInt 3 = 3 := rfl
        refine xiast (pc := 93) (N := 4) C0 (Nat.le_of_ble_eq_true rfl) hH hS 87 ⟨Nat.le_of_ble_eq_true rfl, Nat.le_of_ble_eq_true rfl⟩ ⟨rfl, rfl⟩ (vI (by omega) (by omega)) dX10_read_93 (fun _ locs hH hS _ => ?_)
        have hH : Hd D tA b 78 52 zz (up2 ir1 78 15 1) (va_up (va_up (va_up (va_up Fr1 87 (upd (Fr1 87) (Int32.toNatClampNeg 0) (ir1 78 30))) 87 (upd (upd (Fr1 87) (Int32.toNatClampNeg 0) (ir1 78 30)) (Int32.toNatClampNeg 1) (ir1 78 31))) 87 (upd (upd (upd (Fr1 87) (Int32.toNatClampNeg 0) (ir1 78 30)) (Int32.toNatClampNeg 1) (ir1 78 31)) (Int32.toNatClampNeg 2) (-9))) 87 (upd (upd (upd (upd (Fr1 87) (Int32.toNatClampNeg 0) (ir1 78 30)) (Int32.toNatClampNeg 1) (ir1 78 31)) (Int32.toNatClampNeg 2) (-9)) (Int32.toNatClampNeg 3) (Fr1 97 (Int32.toNatClampNeg (ir1 78 31))))) Gr1 _ := hH
        refine lv_iload_n (pc := 94) C0.1 C0.2.1 dX10_read_94 rfl (lv_at hl 0 rfl) ?_
        refine lv_if_eq (pc := 95) (tgt := 105) C0.1 C0.2.1 dX10_read_95 (by decide) (fun c21 => ?_) (fun c21 => ?_)
        · have : Int32.toInt 0 = 0 := rfl
          have c21 := congrArg Int32.toInt c21
          refine lv_bipush (pc := 105) (v := (-100)) C0.1 C0.2.1 dX10_read_105 (by decide) ?_
          refine lv_aload_n (pc := 107) C0.1 C0.2.1 dX10_read_107 rfl (lv_at hl 1 rfl) ?_
          refine xget (pc := 108) C0 hH 78 31 clX10 ⟨Nat.le_of_ble_eq_true rfl, Nat.le_of_ble_eq_true rfl⟩ ⟨rfl, rfl⟩ (Nat.le_of_ble_eq_true rfl) fl_X10_248 (v := .int (ir1 78 31)) rfl dX10_read_108 ?_
          refine lv_isub (pc := 111) C0.1 C0.2.1 dX10_read_111 ?_
          exact xiret (pc := 112) C0 hr hH hS dX10_read_112 ⟨⟨(show 0 ≤ Int32.toInt (ir1 78 12) ∧ Int32.toInt (ir1 78 12) ≤ 600 from by omega), hbt, (show 0 ≤ Int32.toInt (ir1 78 14) ∧ Int32.toInt (ir1 78 14) ≤ 600 from by omega), hsrc, hTK, hCB, hWA, (show 0 ≤ Int32.toInt (ir1 78 54) ∧ Int32.toInt (ir1 78 54) ≤ 4000 from by omega), (show 0 ≤ Int32.toInt (ir1 78 78) ∧ Int32.toInt (ir1 78 78) ≤ 200 from by omega), (fun _ => GTm.of hTM (hgtr1.elim id (fun q => absurd (congrArg Int32.toInt q.1) (by assumption)))), hKA, hKI⟩, (RO.f (RO.f (RO.f (RO.f (RO.i (RO.tr RO.rf honr1 (by decide) (by decide)) (by decide)) (by decide)) (by decide)) (by decide)) (by decide))⟩
        · have : Int32.toInt 0 = 0 := rfl
          have c21 : ¬ _ := fun q => c21 (Int32.toInt_inj.mp q)
          refine lv_aload_n (pc := 98) C0.1 C0.2.1 dX10_read_98 rfl (lv_at hl 1 rfl) ?_
          refine xget (pc := 99) C0 hH 78 19 clX10 ⟨Nat.le_of_ble_eq_true rfl, Nat.le_of_ble_eq_true rfl⟩ ⟨rfl, rfl⟩ (Nat.le_of_ble_eq_true rfl) fl_X10_258 (v := .int (ir1 78 19)) rfl dX10_read_99 ?_
          refine lv_goto (pc := 102) (tgt := 112) C0.1 C0.2.1 dX10_read_102 (by decide) ?_
          exact xiret (pc := 112) C0 hr hH hS dX10_read_112 ⟨⟨(show 0 ≤ Int32.toInt (ir1 78 12) ∧ Int32.toInt (ir1 78 12) ≤ 600 from by omega), hbt, (show 0 ≤ Int32.toInt (ir1 78 14) ∧ Int32.toInt (ir1 78 14) ≤ 600 from by omega), hsrc, hTK, hCB, hWA, (show 0 ≤ Int32.toInt (ir1 78 54) ∧ Int32.toInt (ir1 78 54) ≤ 4000 from by omega), (show 0 ≤ Int32.toInt (ir1 78 78) ∧ Int32.toInt (ir1 78 78) ≤ 200 from by omega), (fun _ => GTm.of hTM (hgtr1.elim id (fun q => absurd (congrArg Int32.toInt q.1) (by assumption)))), hKA, hKI⟩, (RO.f (RO.f (RO.f (RO.f (RO.i (RO.tr RO.rf honr1 (by decide) (by decide)) (by decide)) (by decide)) (by decide)) (by decide)) (by decide))⟩
      · have : Int32.toInt 0 = 0 := rfl
        have c19 : ¬ _ := fun q => c19 (Int32.toInt_inj.mp q)
        refine lv_bipush (pc := 79) (v := (-9)) C0.1 C0.2.1 dX10_read_79 (by decide) ?_
        refine lv_goto (pc := 81) (tgt := 93) C0.1 C0.2.1 dX10_read_81 (by decide) ?_
        have : Int32.toInt 3 = 3 := rfl
        refine xiast (pc := 93) (N := 4) C0 (Nat.le_of_ble_eq_true rfl) hH hS 87 ⟨Nat.le_of_ble_eq_true rfl, Nat.le_of_ble_eq_true rfl⟩ ⟨rfl, rfl⟩ (vI (by omega) (by omega)) dX10_read_93 (fun _ locs hH hS _ => ?_)
        have hH : Hd D tA b 78 52 zz (up2 ir1 78 15 1) (va_up (va_up (va_up (va_up Fr1 87 (upd (Fr1 87) (Int32.toNatClampNeg 0) (ir1 78 30))) 87 (upd (upd (Fr1 87) (Int32.toNatClampNeg 0) (ir1 78 30)) (Int32.toNatClampNeg 1) (ir1 78 31))) 87 (upd (upd (upd (Fr1 87) (Int32.toNatClampNeg 0) (ir1 78 30)) (Int32.toNatClampNeg 1) (ir1 78 31)) (Int32.toNatClampNeg 2) (-9))) 87 (upd (upd (upd (upd (Fr1 87) (Int32.toNatClampNeg 0) (ir1 78 30)) (Int32.toNatClampNeg 1) (ir1 78 31)) (Int32.toNatClampNeg 2) (-9)) (Int32.toNatClampNeg 3) (-9))) Gr1 _ := hH
        refine lv_iload_n (pc := 94) C0.1 C0.2.1 dX10_read_94 rfl (lv_at hl 0 rfl) ?_
        refine lv_if_eq (pc := 95) (tgt := 105) C0.1 C0.2.1 dX10_read_95 (by decide) (fun c22 => ?_) (fun c22 => ?_)
        · have : Int32.toInt 0 = 0 := rfl
          have c22 := congrArg Int32.toInt c22
          refine lv_bipush (pc := 105) (v := (-100)) C0.1 C0.2.1 dX10_read_105 (by decide) ?_
          refine lv_aload_n (pc := 107) C0.1 C0.2.1 dX10_read_107 rfl (lv_at hl 1 rfl) ?_
          refine xget (pc := 108) C0 hH 78 31 clX10 ⟨Nat.le_of_ble_eq_true rfl, Nat.le_of_ble_eq_true rfl⟩ ⟨rfl, rfl⟩ (Nat.le_of_ble_eq_true rfl) fl_X10_248 (v := .int (ir1 78 31)) rfl dX10_read_108 ?_
          refine lv_isub (pc := 111) C0.1 C0.2.1 dX10_read_111 ?_
          exact xiret (pc := 112) C0 hr hH hS dX10_read_112 ⟨⟨(show 0 ≤ Int32.toInt (ir1 78 12) ∧ Int32.toInt (ir1 78 12) ≤ 600 from by omega), hbt, (show 0 ≤ Int32.toInt (ir1 78 14) ∧ Int32.toInt (ir1 78 14) ≤ 600 from by omega), hsrc, hTK, hCB, hWA, (show 0 ≤ Int32.toInt (ir1 78 54) ∧ Int32.toInt (ir1 78 54) ≤ 4000 from by omega), (show 0 ≤ Int32.toInt (ir1 78 78) ∧ Int32.toInt (ir1 78 78) ≤ 200 from by omega), (fun _ => GTm.of hTM (hgtr1.elim id (fun q => absurd (congrArg Int32.toInt q.1) (by assumption)))), hKA, hKI⟩, (RO.f (RO.f (RO.f (RO.f (RO.i (RO.tr RO.rf honr1 (by decide) (by decide)) (by decide)) (by decide)) (by decide)) (by decide)) (by decide))⟩
        · have : Int32.toInt 0 = 0 := rfl
          have c22 : ¬ _ := fun q => c22 (Int32.toInt_inj.mp q)
          refine lv_aload_n (pc := 98) C0.1 C0.2.1 dX10_read_98 rfl (lv_at hl 1 rfl) ?_
          refine xget (pc := 99) C0 hH 78 19 clX10 ⟨Nat.le_of_ble_eq_true rfl, Nat.le_of_ble_eq_true rfl⟩ ⟨rfl, rfl⟩ (Nat.le_of_ble_eq_true rfl) fl_X10_258 (v := .int (ir1 78 19)) rfl dX10_read_99 ?_
          refine lv_goto (pc := 102) (tgt := 112) C0.1 C0.2.1 dX10_read_102 (by decide) ?_
          exact xiret (pc := 112) C0 hr hH hS dX10_read_112 ⟨⟨(show 0 ≤ Int32.toInt (ir1 78 12) ∧ Int32.toInt (ir1 78 12) ≤ 600 from by omega), hbt, (show 0 ≤ Int32.toInt (ir1 78 14) ∧ Int32.toInt (ir1 78 14) ≤ 600 from by omega), hsrc, hTK, hCB, hWA, (show 0 ≤ Int32.toInt (ir1 78 54) ∧ Int32.toInt (ir1 78 54) ≤ 4000 from by omega), (show 0 ≤ Int32.toInt (ir1 78 78) ∧ Int32.toInt (ir1 78 78) ≤ 200 from by omega), (fun _ => GTm.of hTM (hgtr1.elim id (fun q => absurd (congrArg Int32.toInt q.1) (by assumption)))), hKA, hKI⟩, (RO.f (RO.f (RO.f (RO.f (RO.i (RO.tr RO.rf honr1 (by decide) (by decide)) (by decide)) (by decide)) (by decide)) (by decide)) (by decide))⟩
