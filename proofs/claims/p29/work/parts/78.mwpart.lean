set_option maxRecDepth 20000 in
theorem cw_X10_406 : CwV RX10 406 yX10_beginLine cX10_beginLine 3 none 1 := ⟨wm 1542 (by decide +kernel) rfl, wm 1544 (by decide +kernel) rfl, wms 77 (by decide +kernel) rfl, wm 11 (by decide +kernel) rfl, wm 1545 rfl rfl, by decide +kernel⟩
set_option maxRecDepth 20000 in
theorem cw_X10_409 : CwV RX10 409 yX10_writeToken cX10_writeToken 5 none 3 := ⟨wm 1550 (by decide +kernel) rfl, wm 1552 (by decide +kernel) rfl, wms 79 (by decide +kernel) rfl, wm 11 (by decide +kernel) rfl, wm 1553 rfl rfl, by decide +kernel⟩
theorem dX10_writeToken_0 : decode cX10_writeToken 0 = .ok (.aload_n 0, 1) := by decide +kernel
theorem dX10_writeToken_1 : decode cX10_writeToken 1 = .ok (.getfield 73, 3) := by decide +kernel
theorem dX10_writeToken_4 : decode cX10_writeToken 4 = .ok (.aload_n 0, 1) := by decide +kernel
theorem dX10_writeToken_5 : decode cX10_writeToken 5 = .ok (.getfield 127, 3) := by decide +kernel
theorem dX10_writeToken_8 : decode cX10_writeToken 8 = .ok (.iload_n 1, 1) := by decide +kernel
theorem dX10_writeToken_9 : decode cX10_writeToken 9 = .ok (.iaload, 1) := by decide +kernel
theorem dX10_writeToken_10 : decode cX10_writeToken 10 = .ok (.iaload, 1) := by decide +kernel
theorem dX10_writeToken_11 : decode cX10_writeToken 11 = .ok (.istore 4, 2) := by decide +kernel
theorem dX10_writeToken_13 : decode cX10_writeToken 13 = .ok (.aload_n 0, 1) := by decide +kernel
theorem dX10_writeToken_14 : decode cX10_writeToken 14 = .ok (.getfield 142, 3) := by decide +kernel
theorem dX10_writeToken_17 : decode cX10_writeToken 17 = .ok (.iload_n 1, 1) := by decide +kernel
theorem dX10_writeToken_18 : decode cX10_writeToken 18 = .ok (.baload, 1) := by decide +kernel
theorem dX10_writeToken_19 : decode cX10_writeToken 19 = .ok (.ifCond .eq 31, 3) := by decide +kernel
theorem dX10_writeToken_50 : decode cX10_writeToken 50 = .ok (.aload_n 0, 1) := by decide +kernel
theorem dX10_writeToken_51 : decode cX10_writeToken 51 = .ok (.getfield 402, 3) := by decide +kernel
theorem dX10_writeToken_54 : decode cX10_writeToken 54 = .ok (.ifCond .ne 9, 3) := by decide +kernel
theorem dX10_writeToken_63 : decode cX10_writeToken 63 = .ok (.aload_n 0, 1) := by decide +kernel
theorem dX10_writeToken_64 : decode cX10_writeToken 64 = .ok (.iload_n 2, 1) := by decide +kernel
theorem dX10_writeToken_65 : decode cX10_writeToken 65 = .ok (.invokevirtual 393, 3) := by decide +kernel
theorem dX10_writeToken_68 : decode cX10_writeToken 68 = .ok (.aload_n 0, 1) := by decide +kernel
theorem dX10_writeToken_69 : decode cX10_writeToken 69 = .ok (.iconst 0, 1) := by decide +kernel
theorem dX10_writeToken_70 : decode cX10_writeToken 70 = .ok (.putfield 402, 3) := by decide +kernel
theorem dX10_writeToken_73 : decode cX10_writeToken 73 = .ok (.aload_n 0, 1) := by decide +kernel
theorem dX10_writeToken_74 : decode cX10_writeToken 74 = .ok (.getfield 142, 3) := by decide +kernel
theorem dX10_writeToken_77 : decode cX10_writeToken 77 = .ok (.iload_n 1, 1) := by decide +kernel
theorem dX10_writeToken_78 : decode cX10_writeToken 78 = .ok (.iconst 0, 1) := by decide +kernel
theorem dX10_writeToken_79 : decode cX10_writeToken 79 = .ok (.bastore, 1) := by decide +kernel
theorem dX10_writeToken_80 : decode cX10_writeToken 80 = .ok (.return_, 1) := by decide +kernel
theorem dX10_writeToken_57 : decode cX10_writeToken 57 = .ok (.aload_n 0, 1) := by decide +kernel
theorem dX10_writeToken_58 : decode cX10_writeToken 58 = .ok (.bipush 32, 2) := by decide +kernel
theorem dX10_writeToken_60 : decode cX10_writeToken 60 = .ok (.invokevirtual 372, 3) := by decide +kernel
theorem dX10_writeToken_22 : decode cX10_writeToken 22 = .ok (.aload_n 0, 1) := by decide +kernel
theorem dX10_writeToken_23 : decode cX10_writeToken 23 = .ok (.aload_n 0, 1) := by decide +kernel
theorem dX10_writeToken_24 : decode cX10_writeToken 24 = .ok (.getfield 139, 3) := by decide +kernel
theorem dX10_writeToken_27 : decode cX10_writeToken 27 = .ok (.iload_n 1, 1) := by decide +kernel
theorem dX10_writeToken_28 : decode cX10_writeToken 28 = .ok (.iaload, 1) := by decide +kernel
theorem dX10_writeToken_29 : decode cX10_writeToken 29 = .ok (.iload 4, 2) := by decide +kernel
theorem dX10_writeToken_31 : decode cX10_writeToken 31 = .ok (.iconst 3, 1) := by decide +kernel
theorem dX10_writeToken_32 : decode cX10_writeToken 32 = .ok (.if_icmp .eq 9, 3) := by decide +kernel
theorem dX10_writeToken_41 : decode cX10_writeToken 41 = .ok (.iload_n 3, 1) := by decide +kernel
theorem dX10_writeToken_42 : decode cX10_writeToken 42 = .ok (.goto 4, 3) := by decide +kernel
theorem dX10_writeToken_46 : decode cX10_writeToken 46 = .ok (.iadd, 1) := by decide +kernel
theorem dX10_writeToken_47 : decode cX10_writeToken 47 = .ok (.invokevirtual 406, 3) := by decide +kernel
theorem dX10_writeToken_35 : decode cX10_writeToken 35 = .ok (.iload 4, 2) := by decide +kernel
theorem dX10_writeToken_37 : decode cX10_writeToken 37 = .ok (.iconst 5, 1) := by decide +kernel
theorem dX10_writeToken_38 : decode cX10_writeToken 38 = .ok (.if_icmp .ne 7, 3) := by decide +kernel
theorem dX10_writeToken_45 : decode cX10_writeToken 45 = .ok (.iconst 0, 1) := by decide +kernel
theorem dX10_writePart_0 : decode cX10_writePart 0 = .ok (.iload_n 2, 1) := by decide +kernel
theorem dX10_writePart_1 : decode cX10_writePart 1 = .ok (.ifCond .lt 11, 3) := by decide +kernel
theorem dX10_writePart_12 : decode cX10_writePart 12 = .ok (.bipush (-100), 2) := by decide +kernel
theorem dX10_writePart_14 : decode cX10_writePart 14 = .ok (.iload_n 2, 1) := by decide +kernel
theorem dX10_writePart_15 : decode cX10_writePart 15 = .ok (.isub, 1) := by decide +kernel
theorem dX10_writePart_16 : decode cX10_writePart 16 = .ok (.istore 4, 2) := by decide +kernel
theorem dX10_writePart_18 : decode cX10_writePart 18 = .ok (.aload_n 0, 1) := by decide +kernel
theorem dX10_writePart_19 : decode cX10_writePart 19 = .ok (.getfield 142, 3) := by decide +kernel
theorem dX10_writePart_22 : decode cX10_writePart 22 = .ok (.iload_n 1, 1) := by decide +kernel
theorem dX10_writePart_23 : decode cX10_writePart 23 = .ok (.aload_n 0, 1) := by decide +kernel
theorem dX10_writePart_24 : decode cX10_writePart 24 = .ok (.iload 4, 2) := by decide +kernel
theorem dX10_writePart_26 : decode cX10_writePart 26 = .ok (.invokevirtual 387, 3) := by decide +kernel
theorem dX10_writePart_29 : decode cX10_writePart 29 = .ok (.ifCond .eq 17, 3) := by decide +kernel
theorem dX10_writePart_46 : decode cX10_writePart 46 = .ok (.iconst 0, 1) := by decide +kernel
theorem dX10_writePart_47 : decode cX10_writePart 47 = .ok (.bastore, 1) := by decide +kernel
theorem dX10_writePart_48 : decode cX10_writePart 48 = .ok (.aload_n 0, 1) := by decide +kernel
theorem dX10_writePart_49 : decode cX10_writePart 49 = .ok (.iload 4, 2) := by decide +kernel
theorem dX10_writePart_51 : decode cX10_writePart 51 = .ok (.aload_n 0, 1) := by decide +kernel
theorem dX10_writePart_52 : decode cX10_writePart 52 = .ok (.getfield 399, 3) := by decide +kernel
theorem dX10_writePart_55 : decode cX10_writePart 55 = .ok (.iconst 2, 1) := by decide +kernel
theorem dX10_writePart_56 : decode cX10_writePart 56 = .ok (.iload_n 3, 1) := by decide +kernel
theorem dX10_writePart_57 : decode cX10_writePart 57 = .ok (.imul, 1) := by decide +kernel
theorem dX10_writePart_58 : decode cX10_writePart 58 = .ok (.iadd, 1) := by decide +kernel
theorem dX10_writePart_59 : decode cX10_writePart 59 = .ok (.invokevirtual 384, 3) := by decide +kernel
theorem dX10_writePart_62 : decode cX10_writePart 62 = .ok (.return_, 1) := by decide +kernel
theorem dX10_writePart_32 : decode cX10_writePart 32 = .ok (.aload_n 0, 1) := by decide +kernel
theorem dX10_writePart_33 : decode cX10_writePart 33 = .ok (.getfield 85, 3) := by decide +kernel
theorem dX10_writePart_36 : decode cX10_writePart 36 = .ok (.iload 4, 2) := by decide +kernel
theorem dX10_writePart_38 : decode cX10_writePart 38 = .ok (.iaload, 1) := by decide +kernel
theorem dX10_writePart_39 : decode cX10_writePart 39 = .ok (.ifCond .le 7, 3) := by decide +kernel
theorem dX10_writePart_42 : decode cX10_writePart 42 = .ok (.iconst 1, 1) := by decide +kernel
theorem dX10_writePart_43 : decode cX10_writePart 43 = .ok (.goto 4, 3) := by decide +kernel
theorem dX10_writePart_4 : decode cX10_writePart 4 = .ok (.aload_n 0, 1) := by decide +kernel
theorem dX10_writePart_5 : decode cX10_writePart 5 = .ok (.iload_n 1, 1) := by decide +kernel
theorem dX10_writePart_6 : decode cX10_writePart 6 = .ok (.iload_n 2, 1) := by decide +kernel
theorem dX10_writePart_7 : decode cX10_writePart 7 = .ok (.iload_n 3, 1) := by decide +kernel
theorem dX10_writePart_8 : decode cX10_writePart 8 = .ok (.invokevirtual 409, 3) := by decide +kernel
theorem dX10_writePart_11 : decode cX10_writePart 11 = .ok (.return_, 1) := by decide +kernel
set_option maxHeartbeats 4000000 in
set_option maxRecDepth 100000 in
theorem m_writeToken (l : Launch) (D : va_G) (tA : Nat → ClassId) (b : Nat) (i F : Nat → Nat → Int32) (G : Nat → Nat → Int64) (x y z : Int32) (hd : 0 ≤ x.toInt ∧ x.toInt < 1202) (hb : 0 ≤ (F 116 (Int32.toNatClampNeg x)).toInt ∧ (F 116 (Int32.toNatClampNeg x)).toInt < 1202) (hgl : 0 ≤ (F 120 (Int32.toNatClampNeg x)).toInt ∧ (F 120 (Int32.toNatClampNeg x)).toInt ≤ 150000) (hz : 1 ≤ z.toInt ∧ z.toInt ≤ 8) (hds : 0 ≤ (i 78 56).toInt ∧ (i 78 56).toInt ≤ 1000000000) (hlc : 0 ≤ (i 78 64).toInt ∧ (i 78 64).toInt ≤ 150000) (hTA : TA (F 89) (F 90)) (hi_78_17 : i 78 17 = nI 85) (hy : 0 ≤ y.toInt ∧ y.toInt < 600) : xMV l yX10_writeToken cX10_writeToken 5 none 2 43 D tA b 78 52 i F G [.ref (b + 78), .int x, .int y, .int z] (fun u => RO [56, 64, 65] [115, 121] i F G u ∧ ((i 78 56).toInt ≤ (u.1 78 56).toInt ∧ (u.1 78 56).toInt ≤ (i 78 56).toInt + (F 120 (Int32.toNatClampNeg x)).toInt + 620) ∧ 0 ≤ (u.1 78 64).toInt ∧ ((u.1 78 64).toInt ≤ (i 78 64).toInt ∨ (u.1 78 64).toInt ≤ (F 120 (Int32.toNatClampNeg x)).toInt + 8)) := by
  refine xstart RX10 rfl (by decide) (Nat.le_of_ble_eq_true rfl) ?_
  intro p e s m below meth c ls C0 hr hH hS hl
  have hl : lv_has ls 5 [(0, .ref (b + 78)), (1, .int x), (2, .int y), (3, .int z)] := hl
  have rg_x := fb_rng x
  have rg_y := fb_rng y
  have rg_z := fb_rng z
  refine lv_aload_n (pc := 0) C0.1 C0.2.1 dX10_writeToken_0 rfl (lv_at hl 0 rfl) ?_
  refine xget (pc := 1) C0 hH 78 33 clX10 ⟨Nat.le_of_ble_eq_true rfl, Nat.le_of_ble_eq_true rfl⟩ ⟨rfl, rfl⟩ (Nat.le_of_ble_eq_true rfl) fl_X10_73 (v := .ref (b + 98)) rfl dX10_writeToken_1 ?_
  refine lv_aload_n (pc := 4) C0.1 C0.2.1 dX10_writeToken_4 rfl (lv_at hl 0 rfl) ?_
  refine xget (pc := 5) C0 hH 78 57 clX10 ⟨Nat.le_of_ble_eq_true rfl, Nat.le_of_ble_eq_true rfl⟩ ⟨rfl, rfl⟩ (Nat.le_of_ble_eq_true rfl) fl_X10_127 (v := .ref (b + 116)) rfl dX10_writeToken_5 ?_
  refine lv_iload_n (pc := 8) C0.1 C0.2.1 dX10_writeToken_8 rfl (lv_at hl 1 rfl) ?_
  refine xiald (pc := 9) (N := 1202) C0 hH 116 ⟨Nat.le_of_ble_eq_true rfl, Nat.le_of_ble_eq_true rfl⟩ ⟨rfl, rfl⟩ (vI (by omega) (by omega)) dX10_writeToken_9 ?_
  refine xiald (pc := 10) (N := 1202) C0 hH 98 ⟨Nat.le_of_ble_eq_true rfl, Nat.le_of_ble_eq_true rfl⟩ ⟨rfl, rfl⟩ (vI (by omega) (by omega)) dX10_writeToken_10 ?_
  refine lv_topi (fun x1 ex1 => ?_)
  refine lv_istore (pc := 11) (lv' := [(4, .int x1), (0, .ref (b + 78)), (1, .int x), (2, .int y), (3, .int z)]) C0.1 C0.2.1 dX10_writeToken_11 hl (by decide) rfl (fun ls hl => ?_)
  refine lv_aload_n (pc := 13) C0.1 C0.2.1 dX10_writeToken_13 rfl (lv_at hl 1 rfl) ?_
  refine xget (pc := 14) C0 hH 78 62 clX10 ⟨Nat.le_of_ble_eq_true rfl, Nat.le_of_ble_eq_true rfl⟩ ⟨rfl, rfl⟩ (Nat.le_of_ble_eq_true rfl) fl_X10_142 (v := .ref (b + 121)) rfl dX10_writeToken_14 ?_
  refine lv_iload_n (pc := 17) C0.1 C0.2.1 dX10_writeToken_17 rfl (lv_at hl 2 rfl) ?_
  refine xzald (pc := 18) (N := 1202) C0 hH 121 ⟨Nat.le_of_ble_eq_true rfl, Nat.le_of_ble_eq_true rfl⟩ ⟨rfl, rfl⟩ (vI (by omega) (by omega)) dX10_writeToken_18 ?_
  refine lv_if_eq (pc := 19) (tgt := 50) C0.1 C0.2.1 dX10_writeToken_19 (by decide) (fun c2 => ?_) (fun c2 => ?_)
  · have : Int32.toInt 0 = 0 := rfl
    have c2 := congrArg Int32.toInt c2
    refine lv_aload_n (pc := 50) C0.1 C0.2.1 dX10_writeToken_50 rfl (lv_at hl 1 rfl) ?_
    refine xget (pc := 51) C0 hH 78 65 clX10 ⟨Nat.le_of_ble_eq_true rfl, Nat.le_of_ble_eq_true rfl⟩ ⟨rfl, rfl⟩ (Nat.le_of_ble_eq_true rfl) fl_X10_402 (v := .int (i 78 65)) rfl dX10_writeToken_51 ?_
    refine lv_if_ne (pc := 54) (tgt := 63) C0.1 C0.2.1 dX10_writeToken_54 (by decide) (fun c3 => ?_) (fun c3 => ?_)
    · have : Int32.toInt 0 = 0 := rfl
      have c3 : ¬ _ := fun q => c3 (Int32.toInt_inj.mp q)
      refine lv_aload_n (pc := 63) C0.1 C0.2.1 dX10_writeToken_63 rfl (lv_at hl 1 rfl) ?_
      refine lv_iload_n (pc := 64) C0.1 C0.2.1 dX10_writeToken_64 rfl (lv_at hl 3 rfl) ?_
      refine xcVV (pc := 65) 78 [.int y] (m_putToken l D tA b i F G y (show 0 ≤ Int32.toInt (i 78 56) ∧ Int32.toInt (i 78 56) ≤ 1900000000 from by omega) hi_78_17 hTA (show 0 ≤ Int32.toInt y ∧ Int32.toInt y < 600 from by omega)) C0 hH hS clX10 rfl ⟨⟨Nat.le_of_ble_eq_true rfl, Nat.le_of_ble_eq_true rfl⟩, rfl, rfl⟩ cw_X10_393 rfl ⟨Nat.le_of_ble_eq_true rfl, Nat.le_of_ble_eq_true rfl⟩ hl.1 rfl (Nat.le_of_ble_eq_true rfl) dX10_writeToken_65 ⟨Nat.le_of_ble_eq_true rfl, Nat.le_of_ble_eq_true rfl⟩ (fun ir4 Fr4 Gr4 _ locs hp hH hS => ?_)
      obtain ⟨honr4, hdsr4⟩ := hp
      have hdsr4 : Int32.toInt (i 78 56) ≤ (ir4 78 56).toInt ∧ (ir4 78 56).toInt ≤ Int32.toInt (i 78 56) + 600 := hdsr4
      have hTA : TA (Fr4 89) (Fr4 90) := by rw [show Fr4 89 = F 89 from (honr4.2 89 (by decide)).1, show Fr4 90 = F 90 from (honr4.2 90 (by decide)).1]; exact hTA
      have hi_78_17 : ir4 78 17 = nI 85 := (honr4.1 78 17 (Or.inr (by decide))).trans hi_78_17
      have ek_64r4 : Int32.toInt (ir4 78 64) = Int32.toInt (i 78 64) := congrArg Int32.toInt (honr4.1 78 64 (Or.inr (by decide)))
      refine lv_aload_n (pc := 68) C0.1 C0.2.1 dX10_writeToken_68 rfl (lv_at hl 1 rfl) ?_
      refine lv_iconst (pc := 69) (v := 0) C0.1 C0.2.1 dX10_writeToken_69 (by decide) ?_
      refine xputI (pc := 70) C0 (Nat.le_of_ble_eq_true rfl) hH hS 78 65 clX10 ⟨Nat.le_of_ble_eq_true rfl, Nat.le_of_ble_eq_true rfl⟩ ⟨rfl, rfl⟩ ⟨Nat.le_of_ble_eq_true rfl, rfl, rfl⟩ fl_X10_402 (x := 0) ⟨rfl, rfl⟩ dX10_writeToken_70 (fun _ locs hH hS _ => ?_)
      have hH : Hd D tA b 78 52 zz (up2 ir4 78 65 0) Fr4 Gr4 _ := hH
      refine lv_aload_n (pc := 73) C0.1 C0.2.1 dX10_writeToken_73 rfl (lv_at hl 1 rfl) ?_
      refine xget (pc := 74) C0 hH 78 62 clX10 ⟨Nat.le_of_ble_eq_true rfl, Nat.le_of_ble_eq_true rfl⟩ ⟨rfl, rfl⟩ (Nat.le_of_ble_eq_true rfl) fl_X10_142 (v := .ref (b + 121)) rfl dX10_writeToken_74 ?_
      refine lv_iload_n (pc := 77) C0.1 C0.2.1 dX10_writeToken_77 rfl (lv_at hl 2 rfl) ?_
      refine lv_iconst (pc := 78) (v := 0) C0.1 C0.2.1 dX10_writeToken_78 (by decide) ?_
      refine xzast (pc := 79) (N := 1202) C0 (Nat.le_of_ble_eq_true rfl) hH hS 121 ⟨Nat.le_of_ble_eq_true rfl, Nat.le_of_ble_eq_true rfl⟩ ⟨rfl, rfl⟩ (by decide) (vI (by omega) (by omega)) dX10_writeToken_79 (fun _ locs hH hS => ?_)
      have hH : Hd D tA b 78 52 zz (up2 ir4 78 65 0) (va_up Fr4 121 (upd (Fr4 121) (Int32.toNatClampNeg x) 0)) Gr4 _ := hH
      exact xvret (pc := 80) C0 hr hH hS dX10_writeToken_80 ⟨(RO.f (RO.i (RO.tr RO.rf honr4 (by decide) (by decide)) (by decide)) (by decide)), (show _ ≤ Int32.toInt (ir4 78 56) ∧ Int32.toInt (ir4 78 56) ≤ _ from by omega), (show 0 ≤ Int32.toInt (ir4 78 64) from by omega), (show Int32.toInt (ir4 78 64) ≤ _ ∨ Int32.toInt (ir4 78 64) ≤ _ from by omega)⟩
    · have : Int32.toInt 0 = 0 := rfl
      have c3 := congrArg Int32.toInt c3
      refine lv_aload_n (pc := 57) C0.1 C0.2.1 dX10_writeToken_57 rfl (lv_at hl 1 rfl) ?_
      refine lv_bipush (pc := 58) (v := 32) C0.1 C0.2.1 dX10_writeToken_58 (by decide) ?_
      refine xcVV (pc := 60) 78 [.int 32] (m_put l D tA b i F G 32 (show 0 ≤ Int32.toInt (i 78 56) ∧ Int32.toInt (i 78 56) ≤ 2000000000 from by omega) ) C0 hH hS clX10 rfl ⟨⟨Nat.le_of_ble_eq_true rfl, Nat.le_of_ble_eq_true rfl⟩, rfl, rfl⟩ cw_X10_372 rfl ⟨Nat.le_of_ble_eq_true rfl, Nat.le_of_ble_eq_true rfl⟩ hl.1 rfl (Nat.le_of_ble_eq_true rfl) dX10_writeToken_60 ⟨Nat.le_of_ble_eq_true rfl, Nat.le_of_ble_eq_true rfl⟩ (fun ir5 Fr5 Gr5 _ locs hp hH hS => ?_)
      obtain ⟨honr5, hdsr5⟩ := hp
      have hdsr5 : Int32.toInt (i 78 56) ≤ (ir5 78 56).toInt ∧ (ir5 78 56).toInt ≤ Int32.toInt (i 78 56) + 1 := hdsr5
      have hTA : TA (Fr5 89) (Fr5 90) := by rw [show Fr5 89 = F 89 from (honr5.2 89 (by decide)).1, show Fr5 90 = F 90 from (honr5.2 90 (by decide)).1]; exact hTA
      have hi_78_17 : ir5 78 17 = nI 85 := (honr5.1 78 17 (Or.inr (by decide))).trans hi_78_17
      have ek_64r5 : Int32.toInt (ir5 78 64) = Int32.toInt (i 78 64) := congrArg Int32.toInt (honr5.1 78 64 (Or.inr (by decide)))
      refine lv_aload_n (pc := 63) C0.1 C0.2.1 dX10_writeToken_63 rfl (lv_at hl 1 rfl) ?_
      refine lv_iload_n (pc := 64) C0.1 C0.2.1 dX10_writeToken_64 rfl (lv_at hl 3 rfl) ?_
      refine xcVV (pc := 65) 78 [.int y] (m_putToken l D tA b ir5 Fr5 Gr5 y (show 0 ≤ Int32.toInt (ir5 78 56) ∧ Int32.toInt (ir5 78 56) ≤ 1900000000 from by omega) hi_78_17 hTA (show 0 ≤ Int32.toInt y ∧ Int32.toInt y < 600 from by omega)) C0 hH hS clX10 rfl ⟨⟨Nat.le_of_ble_eq_true rfl, Nat.le_of_ble_eq_true rfl⟩, rfl, rfl⟩ cw_X10_393 rfl ⟨Nat.le_of_ble_eq_true rfl, Nat.le_of_ble_eq_true rfl⟩ hl.1 rfl (Nat.le_of_ble_eq_true rfl) dX10_writeToken_65 ⟨Nat.le_of_ble_eq_true rfl, Nat.le_of_ble_eq_true rfl⟩ (fun ir6 Fr6 Gr6 _ locs hp hH hS => ?_)
      obtain ⟨honr6, hdsr6⟩ := hp
      have hdsr6 : Int32.toInt (ir5 78 56) ≤ (ir6 78 56).toInt ∧ (ir6 78 56).toInt ≤ Int32.toInt (ir5 78 56) + 600 := hdsr6
      have hTA : TA (Fr6 89) (Fr6 90) := by rw [show Fr6 89 = Fr5 89 from (honr6.2 89 (by decide)).1, show Fr6 90 = Fr5 90 from (honr6.2 90 (by decide)).1]; exact hTA
      have hi_78_17 : ir6 78 17 = nI 85 := (honr6.1 78 17 (Or.inr (by decide))).trans hi_78_17
      have ek_64r6 : Int32.toInt (ir6 78 64) = Int32.toInt (ir5 78 64) := congrArg Int32.toInt (honr6.1 78 64 (Or.inr (by decide)))
      refine lv_aload_n (pc := 68) C0.1 C0.2.1 dX10_writeToken_68 rfl (lv_at hl 1 rfl) ?_
      refine lv_iconst (pc := 69) (v := 0) C0.1 C0.2.1 dX10_writeToken_69 (by decide) ?_
      refine xputI (pc := 70) C0 (Nat.le_of_ble_eq_true rfl) hH hS 78 65 clX10 ⟨Nat.le_of_ble_eq_true rfl, Nat.le_of_ble_eq_true rfl⟩ ⟨rfl, rfl⟩ ⟨Nat.le_of_ble_eq_true rfl, rfl, rfl⟩ fl_X10_402 (x := 0) ⟨rfl, rfl⟩ dX10_writeToken_70 (fun _ locs hH hS _ => ?_)
      have hH : Hd D tA b 78 52 zz (up2 ir6 78 65 0) Fr6 Gr6 _ := hH
      refine lv_aload_n (pc := 73) C0.1 C0.2.1 dX10_writeToken_73 rfl (lv_at hl 1 rfl) ?_
      refine xget (pc := 74) C0 hH 78 62 clX10 ⟨Nat.le_of_ble_eq_true rfl, Nat.le_of_ble_eq_true rfl⟩ ⟨rfl, rfl⟩ (Nat.le_of_ble_eq_true rfl) fl_X10_142 (v := .ref (b + 121)) rfl dX10_writeToken_74 ?_
      refine lv_iload_n (pc := 77) C0.1 C0.2.1 dX10_writeToken_77 rfl (lv_at hl 2 rfl) ?_
      refine lv_iconst (pc := 78) (v := 0) C0.1 C0.2.1 dX10_writeToken_78 (by decide) ?_
      refine xzast (pc := 79) (N := 1202) C0 (Nat.le_of_ble_eq_true rfl) hH hS 121 ⟨Nat.le_of_ble_eq_true rfl, Nat.le_of_ble_eq_true rfl⟩ ⟨rfl, rfl⟩ (by decide) (vI (by omega) (by omega)) dX10_writeToken_79 (fun _ locs hH hS => ?_)
      have hH : Hd D tA b 78 52 zz (up2 ir6 78 65 0) (va_up Fr6 121 (upd (Fr6 121) (Int32.toNatClampNeg x) 0)) Gr6 _ := hH
      exact xvret (pc := 80) C0 hr hH hS dX10_writeToken_80 ⟨(RO.f (RO.i (RO.tr (RO.tr RO.rf honr5 (by decide) (by decide)) honr6 (by decide) (by decide)) (by decide)) (by decide)), (show _ ≤ Int32.toInt (ir6 78 56) ∧ Int32.toInt (ir6 78 56) ≤ _ from by omega), (show 0 ≤ Int32.toInt (ir6 78 64) from by omega), (show Int32.toInt (ir6 78 64) ≤ _ ∨ Int32.toInt (ir6 78 64) ≤ _ from by omega)⟩
  · have : Int32.toInt 0 = 0 := rfl
    have c2 : ¬ _ := fun q => c2 (Int32.toInt_inj.mp q)
    refine lv_aload_n (pc := 22) C0.1 C0.2.1 dX10_writeToken_22 rfl (lv_at hl 1 rfl) ?_
    refine lv_aload_n (pc := 23) C0.1 C0.2.1 dX10_writeToken_23 rfl (lv_at hl 1 rfl) ?_
    refine xget (pc := 24) C0 hH 78 61 clX10 ⟨Nat.le_of_ble_eq_true rfl, Nat.le_of_ble_eq_true rfl⟩ ⟨rfl, rfl⟩ (Nat.le_of_ble_eq_true rfl) fl_X10_139 (v := .ref (b + 120)) rfl dX10_writeToken_24 ?_
    refine lv_iload_n (pc := 27) C0.1 C0.2.1 dX10_writeToken_27 rfl (lv_at hl 2 rfl) ?_
    refine xiald (pc := 28) (N := 1202) C0 hH 120 ⟨Nat.le_of_ble_eq_true rfl, Nat.le_of_ble_eq_true rfl⟩ ⟨rfl, rfl⟩ (vI (by omega) (by omega)) dX10_writeToken_28 ?_
    refine lv_iload (pc := 29) C0.1 C0.2.1 dX10_writeToken_29 (lv_at hl 0 rfl) ?_
    refine lv_iconst (pc := 31) (v := 3) C0.1 C0.2.1 dX10_writeToken_31 (by decide) ?_
    refine lv_icmp_eq (pc := 32) (tgt := 41) C0.1 C0.2.1 dX10_writeToken_32 (by decide) (fun c7 => ?_) (fun c7 => ?_)
    · have : Int32.toInt 3 = 3 := rfl
      have c7 := congrArg Int32.toInt c7
      refine lv_iload_n (pc := 41) C0.1 C0.2.1 dX10_writeToken_41 rfl (lv_at hl 4 rfl) ?_
      refine lv_goto (pc := 42) (tgt := 46) C0.1 C0.2.1 dX10_writeToken_42 (by decide) ?_
      refine lv_iadd (pc := 46) C0.1 C0.2.1 dX10_writeToken_46 ?_
      refine lv_topi (fun x8 ex8 => ?_)
      have hx8 : Int32.toInt x8 = Int32.toInt (F 120 (Int32.toNatClampNeg x)) + Int32.toInt z := by rw [ex8]; exact fb_addI (by omega) (by omega)
      refine xcVV (pc := 47) 78 [.int x8] (m_beginLine l D tA b i F G x8 (show 0 ≤ Int32.toInt (i 78 56) ∧ Int32.toInt (i 78 56) ≤ 1500000000 from by omega) (show 0 ≤ Int32.toInt x8 ∧ Int32.toInt x8 ≤ 200000 from by omega)) C0 hH hS clX10 rfl ⟨⟨Nat.le_of_ble_eq_true rfl, Nat.le_of_ble_eq_true rfl⟩, rfl, rfl⟩ cw_X10_406 rfl ⟨Nat.le_of_ble_eq_true rfl, Nat.le_of_ble_eq_true rfl⟩ hl.1 rfl (Nat.le_of_ble_eq_true rfl) dX10_writeToken_47 ⟨Nat.le_of_ble_eq_true rfl, Nat.le_of_ble_eq_true rfl⟩ (fun ir9 Fr9 Gr9 _ locs hp hH hS => ?_)
      obtain ⟨honr9, hdsr9, hlcr9⟩ := hp
      have hdsr9 : Int32.toInt (i 78 56) ≤ (ir9 78 56).toInt ∧ (ir9 78 56).toInt ≤ Int32.toInt (i 78 56) + 1 + Int32.toInt x8 := hdsr9
      have hlcr9 : Int32.toInt (ir9 78 64) = Int32.toInt x8 := congrArg Int32.toInt hlcr9
      have hTA : TA (Fr9 89) (Fr9 90) := by rw [show Fr9 89 = F 89 from (honr9.2 89 (by decide)).1, show Fr9 90 = F 90 from (honr9.2 90 (by decide)).1]; exact hTA
      have hi_78_17 : ir9 78 17 = nI 85 := (honr9.1 78 17 (Or.inr (by decide))).trans hi_78_17
      refine lv_aload_n (pc := 50) C0.1 C0.2.1 dX10_writeToken_50 rfl (lv_at hl 1 rfl) ?_
      refine xget (pc := 51) C0 hH 78 65 clX10 ⟨Nat.le_of_ble_eq_true rfl, Nat.le_of_ble_eq_true rfl⟩ ⟨rfl, rfl⟩ (Nat.le_of_ble_eq_true rfl) fl_X10_402 (v := .int (ir9 78 65)) rfl dX10_writeToken_51 ?_
      refine lv_if_ne (pc := 54) (tgt := 63) C0.1 C0.2.1 dX10_writeToken_54 (by decide) (fun c10 => ?_) (fun c10 => ?_)
      · have : Int32.toInt 0 = 0 := rfl
        have c10 : ¬ _ := fun q => c10 (Int32.toInt_inj.mp q)
        refine lv_aload_n (pc := 63) C0.1 C0.2.1 dX10_writeToken_63 rfl (lv_at hl 1 rfl) ?_
        refine lv_iload_n (pc := 64) C0.1 C0.2.1 dX10_writeToken_64 rfl (lv_at hl 3 rfl) ?_
        refine xcVV (pc := 65) 78 [.int y] (m_putToken l D tA b ir9 Fr9 Gr9 y (show 0 ≤ Int32.toInt (ir9 78 56) ∧ Int32.toInt (ir9 78 56) ≤ 1900000000 from by omega) hi_78_17 hTA (show 0 ≤ Int32.toInt y ∧ Int32.toInt y < 600 from by omega)) C0 hH hS clX10 rfl ⟨⟨Nat.le_of_ble_eq_true rfl, Nat.le_of_ble_eq_true rfl⟩, rfl, rfl⟩ cw_X10_393 rfl ⟨Nat.le_of_ble_eq_true rfl, Nat.le_of_ble_eq_true rfl⟩ hl.1 rfl (Nat.le_of_ble_eq_true rfl) dX10_writeToken_65 ⟨Nat.le_of_ble_eq_true rfl, Nat.le_of_ble_eq_true rfl⟩ (fun ir11 Fr11 Gr11 _ locs hp hH hS => ?_)
        obtain ⟨honr11, hdsr11⟩ := hp
        have hdsr11 : Int32.toInt (ir9 78 56) ≤ (ir11 78 56).toInt ∧ (ir11 78 56).toInt ≤ Int32.toInt (ir9 78 56) + 600 := hdsr11
        have hTA : TA (Fr11 89) (Fr11 90) := by rw [show Fr11 89 = Fr9 89 from (honr11.2 89 (by decide)).1, show Fr11 90 = Fr9 90 from (honr11.2 90 (by decide)).1]; exact hTA
        have hi_78_17 : ir11 78 17 = nI 85 := (honr11.1 78 17 (Or.inr (by decide))).trans hi_78_17
        have ek_64r11 : Int32.toInt (ir11 78 64) = Int32.toInt (ir9 78 64) := congrArg Int32.toInt (honr11.1 78 64 (Or.inr (by decide)))
        refine lv_aload_n (pc := 68) C0.1 C0.2.1 dX10_writeToken_68 rfl (lv_at hl 1 rfl) ?_
        refine lv_iconst (pc := 69) (v := 0) C0.1 C0.2.1 dX10_writeToken_69 (by decide) ?_
        refine xputI (pc := 70) C0 (Nat.le_of_ble_eq_true rfl) hH hS 78 65 clX10 ⟨Nat.le_of_ble_eq_true rfl, Nat.le_of_ble_eq_true rfl⟩ ⟨rfl, rfl⟩ ⟨Nat.le_of_ble_eq_true rfl, rfl, rfl⟩ fl_X10_402 (x := 0) ⟨rfl, rfl⟩ dX10_writeToken_70 (fun _ locs hH hS _ => ?_)
        have hH : Hd D tA b 78 52 zz (up2 ir11 78 65 0) Fr11 Gr11 _ := hH
        refine lv_aload_n (pc := 73) C0.1 C0.2.1 dX10_writeToken_73 rfl (lv_at hl 1 rfl) ?_
        refine xget (pc := 74) C0 hH 78 62 clX10 ⟨Nat.le_of_ble_eq_true rfl, Nat.le_of_ble_eq_true rfl⟩ ⟨rfl, rfl⟩ (Nat.le_of_ble_eq_true rfl) fl_X10_142 (v := .ref (b + 121)) rfl dX10_writeToken_74 ?_
        refine lv_iload_n (pc := 77) C0.1 C0.2.1 dX10_writeToken_77 rfl (lv_at hl 2 rfl) ?_
        refine lv_iconst (pc := 78) (v := 0) C0.1 C0.2.1 dX10_writeToken_78 (by decide) ?_
        refine xzast (pc := 79) (N := 1202) C0 (Nat.le_of_ble_eq_true rfl) hH hS 121 ⟨Nat.le_of_ble_eq_true rfl, Nat.le_of_ble_eq_true rfl⟩ ⟨rfl, rfl⟩ (by decide) (vI (by omega) (by omega)) dX10_writeToken_79 (fun _ locs hH hS => ?_)
        have hH : Hd D tA b 78 52 zz (up2 ir11 78 65 0) (va_up Fr11 121 (upd (Fr11 121) (Int32.toNatClampNeg x) 0)) Gr11 _ := hH
        exact xvret (pc := 80) C0 hr hH hS dX10_writeToken_80 ⟨(RO.f (RO.i (RO.tr (RO.tr RO.rf honr9 (by decide) (by decide)) honr11 (by decide) (by decide)) (by decide)) (by decide)), (show _ ≤ Int32.toInt (ir11 78 56) ∧ Int32.toInt (ir11 78 56) ≤ _ from by omega), (show 0 ≤ Int32.toInt (ir11 78 64) from by omega), (show Int32.toInt (ir11 78 64) ≤ _ ∨ Int32.toInt (ir11 78 64) ≤ _ from by omega)⟩
      · have : Int32.toInt 0 = 0 := rfl
        have c10 := congrArg Int32.toInt c10
        refine lv_aload_n (pc := 57) C0.1 C0.2.1 dX10_writeToken_57 rfl (lv_at hl 1 rfl) ?_
        refine lv_bipush (pc := 58) (v := 32) C0.1 C0.2.1 dX10_writeToken_58 (by decide) ?_
        refine xcVV (pc := 60) 78 [.int 32] (m_put l D tA b ir9 Fr9 Gr9 32 (show 0 ≤ Int32.toInt (ir9 78 56) ∧ Int32.toInt (ir9 78 56) ≤ 2000000000 from by omega) ) C0 hH hS clX10 rfl ⟨⟨Nat.le_of_ble_eq_true rfl, Nat.le_of_ble_eq_true rfl⟩, rfl, rfl⟩ cw_X10_372 rfl ⟨Nat.le_of_ble_eq_true rfl, Nat.le_of_ble_eq_true rfl⟩ hl.1 rfl (Nat.le_of_ble_eq_true rfl) dX10_writeToken_60 ⟨Nat.le_of_ble_eq_true rfl, Nat.le_of_ble_eq_true rfl⟩ (fun ir12 Fr12 Gr12 _ locs hp hH hS => ?_)
        obtain ⟨honr12, hdsr12⟩ := hp
        have hdsr12 : Int32.toInt (ir9 78 56) ≤ (ir12 78 56).toInt ∧ (ir12 78 56).toInt ≤ Int32.toInt (ir9 78 56) + 1 := hdsr12
        have hTA : TA (Fr12 89) (Fr12 90) := by rw [show Fr12 89 = Fr9 89 from (honr12.2 89 (by decide)).1, show Fr12 90 = Fr9 90 from (honr12.2 90 (by decide)).1]; exact hTA
        have hi_78_17 : ir12 78 17 = nI 85 := (honr12.1 78 17 (Or.inr (by decide))).trans hi_78_17
        have ek_64r12 : Int32.toInt (ir12 78 64) = Int32.toInt (ir9 78 64) := congrArg Int32.toInt (honr12.1 78 64 (Or.inr (by decide)))
        refine lv_aload_n (pc := 63) C0.1 C0.2.1 dX10_writeToken_63 rfl (lv_at hl 1 rfl) ?_
        refine lv_iload_n (pc := 64) C0.1 C0.2.1 dX10_writeToken_64 rfl (lv_at hl 3 rfl) ?_
        refine xcVV (pc := 65) 78 [.int y] (m_putToken l D tA b ir12 Fr12 Gr12 y (show 0 ≤ Int32.toInt (ir12 78 56) ∧ Int32.toInt (ir12 78 56) ≤ 1900000000 from by omega) hi_78_17 hTA (show 0 ≤ Int32.toInt y ∧ Int32.toInt y < 600 from by omega)) C0 hH hS clX10 rfl ⟨⟨Nat.le_of_ble_eq_true rfl, Nat.le_of_ble_eq_true rfl⟩, rfl, rfl⟩ cw_X10_393 rfl ⟨Nat.le_of_ble_eq_true rfl, Nat.le_of_ble_eq_true rfl⟩ hl.1 rfl (Nat.le_of_ble_eq_true rfl) dX10_writeToken_65 ⟨Nat.le_of_ble_eq_true rfl, Nat.le_of_ble_eq_true rfl⟩ (fun ir13 Fr13 Gr13 _ locs hp hH hS => ?_)
        obtain ⟨honr13, hdsr13⟩ := hp
        have hdsr13 : Int32.toInt (ir12 78 56) ≤ (ir13 78 56).toInt ∧ (ir13 78 56).toInt ≤ Int32.toInt (ir12 78 56) + 600 := hdsr13
        have hTA : TA (Fr13 89) (Fr13 90) := by rw [show Fr13 89 = Fr12 89 from (honr13.2 89 (by decide)).1, show Fr13 90 = Fr12 90 from (honr13.2 90 (by decide)).1]; exact hTA
        have hi_78_17 : ir13 78 17 = nI 85 := (honr13.1 78 17 (Or.inr (by decide))).trans hi_78_17
        have ek_64r13 : Int32.toInt (ir13 78 64) = Int32.toInt (ir12 78 64) := congrArg Int32.toInt (honr13.1 78 64 (Or.inr (by decide)))
        refine lv_aload_n (pc := 68) C0.1 C0.2.1 dX10_writeToken_68 rfl (lv_at hl 1 rfl) ?_
        refine lv_iconst (pc := 69) (v := 0) C0.1 C0.2.1 dX10_writeToken_69 (by decide) ?_
        refine xputI (pc := 70) C0 (Nat.le_of_ble_eq_true rfl) hH hS 78 65 clX10 ⟨Nat.le_of_ble_eq_true rfl, Nat.le_of_ble_eq_true rfl⟩ ⟨rfl, rfl⟩ ⟨Nat.le_of_ble_eq_true rfl, rfl, rfl⟩ fl_X10_402 (x := 0) ⟨rfl, rfl⟩ dX10_writeToken_70 (fun _ locs hH hS _ => ?_)
        have hH : Hd D tA b 78 52 zz (up2 ir13 78 65 0) Fr13 Gr13 _ := hH
        refine lv_aload_n (pc := 73) C0.1 C0.2.1 dX10_writeToken_73 rfl (lv_at hl 1 rfl) ?_
        refine xget (pc := 74) C0 hH 78 62 clX10 ⟨Nat.le_of_ble_eq_true rfl, Nat.le_of_ble_eq_true rfl⟩ ⟨rfl, rfl⟩ (Nat.le_of_ble_eq_true rfl) fl_X10_142 (v := .ref (b + 121)) rfl dX10_writeToken_74 ?_
        refine lv_iload_n (pc := 77) C0.1 C0.2.1 dX10_writeToken_77 rfl (lv_at hl 2 rfl) ?_
        refine lv_iconst (pc := 78) (v := 0) C0.1 C0.2.1 dX10_writeToken_78 (by decide) ?_
        refine xzast (pc := 79) (N := 1202) C0 (Nat.le_of_ble_eq_true rfl) hH hS 121 ⟨Nat.le_of_ble_eq_true rfl, Nat.le_of_ble_eq_true rfl⟩ ⟨rfl, rfl⟩ (by decide) (vI (by omega) (by omega)) dX10_writeToken_79 (fun _ locs hH hS => ?_)
        have hH : Hd D tA b 78 52 zz (up2 ir13 78 65 0) (va_up Fr13 121 (upd (Fr13 121) (Int32.toNatClampNeg x) 0)) Gr13 _ := hH
        exact xvret (pc := 80) C0 hr hH hS dX10_writeToken_80 ⟨(RO.f (RO.i (RO.tr (RO.tr (RO.tr RO.rf honr9 (by decide) (by decide)) honr12 (by decide) (by decide)) honr13 (by decide) (by decide)) (by decide)) (by decide)), (show _ ≤ Int32.toInt (ir13 78 56) ∧ Int32.toInt (ir13 78 56) ≤ _ from by omega), (show 0 ≤ Int32.toInt (ir13 78 64) from by omega), (show Int32.toInt (ir13 78 64) ≤ _ ∨ Int32.toInt (ir13 78 64) ≤ _ from by omega)⟩
    · have : Int32.toInt 3 = 3 := rfl
      have c7 : ¬ _ := fun q => c7 (Int32.toInt_inj.mp q)
      refine lv_iload (pc := 35) C0.1 C0.2.1 dX10_writeToken_35 (lv_at hl 0 rfl) ?_
      refine lv_iconst (pc := 37) (v := 5) C0.1 C0.2.1 dX10_writeToken_37 (by decide) ?_
      refine lv_icmp_ne (pc := 38) (tgt := 45) C0.1 C0.2.1 dX10_writeToken_38 (by decide) (fun c14 => ?_) (fun c14 => ?_)
      · have : Int32.toInt 5 = 5 := rfl
        have c14 : ¬ _ := fun q => c14 (Int32.toInt_inj.mp q)
        refine lv_iconst (pc := 45) (v := 0) C0.1 C0.2.1 dX10_writeToken_45 (by decide) ?_
        have : Int32.toInt 0 = 0 := rfl
        refine lv_iadd (pc := 46) C0.1 C0.2.1 dX10_writeToken_46 ?_
        refine lv_topi (fun x15 ex15 => ?_)
        have hx15 : Int32.toInt x15 = Int32.toInt (F 120 (Int32.toNatClampNeg x)) + Int32.toInt 0 := by rw [ex15]; exact fb_addI (by omega) (by omega)
        refine xcVV (pc := 47) 78 [.int x15] (m_beginLine l D tA b i F G x15 (show 0 ≤ Int32.toInt (i 78 56) ∧ Int32.toInt (i 78 56) ≤ 1500000000 from by omega) (show 0 ≤ Int32.toInt x15 ∧ Int32.toInt x15 ≤ 200000 from by omega)) C0 hH hS clX10 rfl ⟨⟨Nat.le_of_ble_eq_true rfl, Nat.le_of_ble_eq_true rfl⟩, rfl, rfl⟩ cw_X10_406 rfl ⟨Nat.le_of_ble_eq_true rfl, Nat.le_of_ble_eq_true rfl⟩ hl.1 rfl (Nat.le_of_ble_eq_true rfl) dX10_writeToken_47 ⟨Nat.le_of_ble_eq_true rfl, Nat.le_of_ble_eq_true rfl⟩ (fun ir16 Fr16 Gr16 _ locs hp hH hS => ?_)
        obtain ⟨honr16, hdsr16, hlcr16⟩ := hp
        have hdsr16 : Int32.toInt (i 78 56) ≤ (ir16 78 56).toInt ∧ (ir16 78 56).toInt ≤ Int32.toInt (i 78 56) + 1 + Int32.toInt x15 := hdsr16
        have hlcr16 : Int32.toInt (ir16 78 64) = Int32.toInt x15 := congrArg Int32.toInt hlcr16
        have hTA : TA (Fr16 89) (Fr16 90) := by rw [show Fr16 89 = F 89 from (honr16.2 89 (by decide)).1, show Fr16 90 = F 90 from (honr16.2 90 (by decide)).1]; exact hTA
        have hi_78_17 : ir16 78 17 = nI 85 := (honr16.1 78 17 (Or.inr (by decide))).trans hi_78_17
        refine lv_aload_n (pc := 50) C0.1 C0.2.1 dX10_writeToken_50 rfl (lv_at hl 1 rfl) ?_
        refine xget (pc := 51) C0 hH 78 65 clX10 ⟨Nat.le_of_ble_eq_true rfl, Nat.le_of_ble_eq_true rfl⟩ ⟨rfl, rfl⟩ (Nat.le_of_ble_eq_true rfl) fl_X10_402 (v := .int (ir16 78 65)) rfl dX10_writeToken_51 ?_
        refine lv_if_ne (pc := 54) (tgt := 63) C0.1 C0.2.1 dX10_writeToken_54 (by decide) (fun c17 => ?_) (fun c17 => ?_)
        · have : Int32.toInt 0 = 0 := rfl
          have c17 : ¬ _ := fun q => c17 (Int32.toInt_inj.mp q)
          refine lv_aload_n (pc := 63) C0.1 C0.2.1 dX10_writeToken_63 rfl (lv_at hl 1 rfl) ?_
          refine lv_iload_n (pc := 64) C0.1 C0.2.1 dX10_writeToken_64 rfl (lv_at hl 3 rfl) ?_
          refine xcVV (pc := 65) 78 [.int y] (m_putToken l D tA b ir16 Fr16 Gr16 y (show 0 ≤ Int32.toInt (ir16 78 56) ∧ Int32.toInt (ir16 78 56) ≤ 1900000000 from by omega) hi_78_17 hTA (show 0 ≤ Int32.toInt y ∧ Int32.toInt y < 600 from by omega)) C0 hH hS clX10 rfl ⟨⟨Nat.le_of_ble_eq_true rfl, Nat.le_of_ble_eq_true rfl⟩, rfl, rfl⟩ cw_X10_393 rfl ⟨Nat.le_of_ble_eq_true rfl, Nat.le_of_ble_eq_true rfl⟩ hl.1 rfl (Nat.le_of_ble_eq_true rfl) dX10_writeToken_65 ⟨Nat.le_of_ble_eq_true rfl, Nat.le_of_ble_eq_true rfl⟩ (fun ir18 Fr18 Gr18 _ locs hp hH hS => ?_)
          obtain ⟨honr18, hdsr18⟩ := hp
          have hdsr18 : Int32.toInt (ir16 78 56) ≤ (ir18 78 56).toInt ∧ (ir18 78 56).toInt ≤ Int32.toInt (ir16 78 56) + 600 := hdsr18
          have hTA : TA (Fr18 89) (Fr18 90) := by rw [show Fr18 89 = Fr16 89 from (honr18.2 89 (by decide)).1, show Fr18 90 = Fr16 90 from (honr18.2 90 (by decide)).1]; exact hTA
          have hi_78_17 : ir18 78 17 = nI 85 := (honr18.1 78 17 (Or.inr (by decide))).trans hi_78_17
          have ek_64r18 : Int32.toInt (ir18 78 64) = Int32.toInt (ir16 78 64) := congrArg Int32.toInt (honr18.1 78 64 (Or.inr (by decide)))
          refine lv_aload_n (pc := 68) C0.1 C0.2.1 dX10_writeToken_68 rfl (lv_at hl 1 rfl) ?_
          refine lv_iconst (pc := 69) (v := 0) C0.1 C0.2.1 dX10_writeToken_69 (by decide) ?_
          refine xputI (pc := 70) C0 (Nat.le_of_ble_eq_true rfl) hH hS 78 65 clX10 ⟨Nat.le_of_ble_eq_true rfl, Nat.le_of_ble_eq_true rfl⟩ ⟨rfl, rfl⟩ ⟨Nat.le_of_ble_eq_true rfl, rfl, rfl⟩ fl_X10_402 (x := 0) ⟨rfl, rfl⟩ dX10_writeToken_70 (fun _ locs hH hS _ => ?_)
          have hH : Hd D tA b 78 52 zz (up2 ir18 78 65 0) Fr18 Gr18 _ := hH
          refine lv_aload_n (pc := 73) C0.1 C0.2.1 dX10_writeToken_73 rfl (lv_at hl 1 rfl) ?_
          refine xget (pc := 74) C0 hH 78 62 clX10 ⟨Nat.le_of_ble_eq_true rfl, Nat.le_of_ble_eq_true rfl⟩ ⟨rfl, rfl⟩ (Nat.le_of_ble_eq_true rfl) fl_X10_142 (v := .ref (b + 121)) rfl dX10_writeToken_74 ?_
          refine lv_iload_n (pc := 77) C0.1 C0.2.1 dX10_writeToken_77 rfl (lv_at hl 2 rfl) ?_
          refine lv_iconst (pc := 78) (v := 0) C0.1 C0.2.1 dX10_writeToken_78 (by decide) ?_
          refine xzast (pc := 79) (N := 1202) C0 (Nat.le_of_ble_eq_true rfl) hH hS 121 ⟨Nat.le_of_ble_eq_true rfl, Nat.le_of_ble_eq_true rfl⟩ ⟨rfl, rfl⟩ (by decide) (vI (by omega) (by omega)) dX10_writeToken_79 (fun _ locs hH hS => ?_)
          have hH : Hd D tA b 78 52 zz (up2 ir18 78 65 0) (va_up Fr18 121 (upd (Fr18 121) (Int32.toNatClampNeg x) 0)) Gr18 _ := hH
          exact xvret (pc := 80) C0 hr hH hS dX10_writeToken_80 ⟨(RO.f (RO.i (RO.tr (RO.tr RO.rf honr16 (by decide) (by decide)) honr18 (by decide) (by decide)) (by decide)) (by decide)), (show _ ≤ Int32.toInt (ir18 78 56) ∧ Int32.toInt (ir18 78 56) ≤ _ from by omega), (show 0 ≤ Int32.toInt (ir18 78 64) from by omega), (show Int32.toInt (ir18 78 64) ≤ _ ∨ Int32.toInt (ir18 78 64) ≤ _ from by omega)⟩
        · have : Int32.toInt 0 = 0 := rfl
          have c17 := congrArg Int32.toInt c17
          refine lv_aload_n (pc := 57) C0.1 C0.2.1 dX10_writeToken_57 rfl (lv_at hl 1 rfl) ?_
          refine lv_bipush (pc := 58) (v := 32) C0.1 C0.2.1 dX10_writeToken_58 (by decide) ?_
          refine xcVV (pc := 60) 78 [.int 32] (m_put l D tA b ir16 Fr16 Gr16 32 (show 0 ≤ Int32.toInt (ir16 78 56) ∧ Int32.toInt (ir16 78 56) ≤ 2000000000 from by omega) ) C0 hH hS clX10 rfl ⟨⟨Nat.le_of_ble_eq_true rfl, Nat.le_of_ble_eq_true rfl⟩, rfl, rfl⟩ cw_X10_372 rfl ⟨Nat.le_of_ble_eq_true rfl, Nat.le_of_ble_eq_true rfl⟩ hl.1 rfl (Nat.le_of_ble_eq_true rfl) dX10_writeToken_60 ⟨Nat.le_of_ble_eq_true rfl, Nat.le_of_ble_eq_true rfl⟩ (fun ir19 Fr19 Gr19 _ locs hp hH hS => ?_)
          obtain ⟨honr19, hdsr19⟩ := hp
          have hdsr19 : Int32.toInt (ir16 78 56) ≤ (ir19 78 56).toInt ∧ (ir19 78 56).toInt ≤ Int32.toInt (ir16 78 56) + 1 := hdsr19
          have hTA : TA (Fr19 89) (Fr19 90) := by rw [show Fr19 89 = Fr16 89 from (honr19.2 89 (by decide)).1, show Fr19 90 = Fr16 90 from (honr19.2 90 (by decide)).1]; exact hTA
          have hi_78_17 : ir19 78 17 = nI 85 := (honr19.1 78 17 (Or.inr (by decide))).trans hi_78_17
          have ek_64r19 : Int32.toInt (ir19 78 64) = Int32.toInt (ir16 78 64) := congrArg Int32.toInt (honr19.1 78 64 (Or.inr (by decide)))
          refine lv_aload_n (pc := 63) C0.1 C0.2.1 dX10_writeToken_63 rfl (lv_at hl 1 rfl) ?_
          refine lv_iload_n (pc := 64) C0.1 C0.2.1 dX10_writeToken_64 rfl (lv_at hl 3 rfl) ?_
          refine xcVV (pc := 65) 78 [.int y] (m_putToken l D tA b ir19 Fr19 Gr19 y (show 0 ≤ Int32.toInt (ir19 78 56) ∧ Int32.toInt (ir19 78 56) ≤ 1900000000 from by omega) hi_78_17 hTA (show 0 ≤ Int32.toInt y ∧ Int32.toInt y < 600 from by omega)) C0 hH hS clX10 rfl ⟨⟨Nat.le_of_ble_eq_true rfl, Nat.le_of_ble_eq_true rfl⟩, rfl, rfl⟩ cw_X10_393 rfl ⟨Nat.le_of_ble_eq_true rfl, Nat.le_of_ble_eq_true rfl⟩ hl.1 rfl (Nat.le_of_ble_eq_true rfl) dX10_writeToken_65 ⟨Nat.le_of_ble_eq_true rfl, Nat.le_of_ble_eq_true rfl⟩ (fun ir20 Fr20 Gr20 _ locs hp hH hS => ?_)
          obtain ⟨honr20, hdsr20⟩ := hp
          have hdsr20 : Int32.toInt (ir19 78 56) ≤ (ir20 78 56).toInt ∧ (ir20 78 56).toInt ≤ Int32.toInt (ir19 78 56) + 600 := hdsr20
          have hTA : TA (Fr20 89) (Fr20 90) := by rw [show Fr20 89 = Fr19 89 from (honr20.2 89 (by decide)).1, show Fr20 90 = Fr19 90 from (honr20.2 90 (by decide)).1]; exact hTA
          have hi_78_17 : ir20 78 17 = nI 85 := (honr20.1 78 17 (Or.inr (by decide))).trans hi_78_17
          have ek_64r20 : Int32.toInt (ir20 78 64) = Int32.toInt (ir19 78 64) := congrArg Int32.toInt (honr20.1 78 64 (Or.inr (by decide)))
          refine lv_aload_n (pc := 68) C0.1 C0.2.1 dX10_writeToken_68 rfl (lv_at hl 1 rfl) ?_
          refine lv_iconst (pc := 69) (v := 0) C0.1 C0.2.1 dX10_writeToken_69 (by decide) ?_
          refine xputI (pc := 70) C0 (Nat.le_of_ble_eq_true rfl) hH hS 78 65 clX10 ⟨Nat.le_of_ble_eq_true rfl, Nat.le_of_ble_eq_true rfl⟩ ⟨rfl, rfl⟩ ⟨Nat.le_of_ble_eq_true rfl, rfl, rfl⟩ fl_X10_402 (x := 0) ⟨rfl, rfl⟩ dX10_writeToken_70 (fun _ locs hH hS _ => ?_)
          have hH : Hd D tA b 78 52 zz (up2 ir20 78 65 0) Fr20 Gr20 _ := hH
          refine lv_aload_n (pc := 73) C0.1 C0.2.1 dX10_writeToken_73 rfl (lv_at hl 1 rfl) ?_
          refine xget (pc := 74) C0 hH 78 62 clX10 ⟨Nat.le_of_ble_eq_true rfl, Nat.le_of_ble_eq_true rfl⟩ ⟨rfl, rfl⟩ (Nat.le_of_ble_eq_true rfl) fl_X10_142 (v := .ref (b + 121)) rfl dX10_writeToken_74 ?_
          refine lv_iload_n (pc := 77) C0.1 C0.2.1 dX10_writeToken_77 rfl (lv_at hl 2 rfl) ?_
          refine lv_iconst (pc := 78) (v := 0) C0.1 C0.2.1 dX10_writeToken_78 (by decide) ?_
          refine xzast (pc := 79) (N := 1202) C0 (Nat.le_of_ble_eq_true rfl) hH hS 121 ⟨Nat.le_of_ble_eq_true rfl, Nat.le_of_ble_eq_true rfl⟩ ⟨rfl, rfl⟩ (by decide) (vI (by omega) (by omega)) dX10_writeToken_79 (fun _ locs hH hS => ?_)
          have hH : Hd D tA b 78 52 zz (up2 ir20 78 65 0) (va_up Fr20 121 (upd (Fr20 121) (Int32.toNatClampNeg x) 0)) Gr20 _ := hH
          exact xvret (pc := 80) C0 hr hH hS dX10_writeToken_80 ⟨(RO.f (RO.i (RO.tr (RO.tr (RO.tr RO.rf honr16 (by decide) (by decide)) honr19 (by decide) (by decide)) honr20 (by decide) (by decide)) (by decide)) (by decide)), (show _ ≤ Int32.toInt (ir20 78 56) ∧ Int32.toInt (ir20 78 56) ≤ _ from by omega), (show 0 ≤ Int32.toInt (ir20 78 64) from by omega), (show Int32.toInt (ir20 78 64) ≤ _ ∨ Int32.toInt (ir20 78 64) ≤ _ from by omega)⟩
      · have : Int32.toInt 5 = 5 := rfl
        have c14 := congrArg Int32.toInt c14
        refine lv_iload_n (pc := 41) C0.1 C0.2.1 dX10_writeToken_41 rfl (lv_at hl 4 rfl) ?_
        refine lv_goto (pc := 42) (tgt := 46) C0.1 C0.2.1 dX10_writeToken_42 (by decide) ?_
        refine lv_iadd (pc := 46) C0.1 C0.2.1 dX10_writeToken_46 ?_
        refine lv_topi (fun x21 ex21 => ?_)
        have hx21 : Int32.toInt x21 = Int32.toInt (F 120 (Int32.toNatClampNeg x)) + Int32.toInt z := by rw [ex21]; exact fb_addI (by omega) (by omega)
        refine xcVV (pc := 47) 78 [.int x21] (m_beginLine l D tA b i F G x21 (show 0 ≤ Int32.toInt (i 78 56) ∧ Int32.toInt (i 78 56) ≤ 1500000000 from by omega) (show 0 ≤ Int32.toInt x21 ∧ Int32.toInt x21 ≤ 200000 from by omega)) C0 hH hS clX10 rfl ⟨⟨Nat.le_of_ble_eq_true rfl, Nat.le_of_ble_eq_true rfl⟩, rfl, rfl⟩ cw_X10_406 rfl ⟨Nat.le_of_ble_eq_true rfl, Nat.le_of_ble_eq_true rfl⟩ hl.1 rfl (Nat.le_of_ble_eq_true rfl) dX10_writeToken_47 ⟨Nat.le_of_ble_eq_true rfl, Nat.le_of_ble_eq_true rfl⟩ (fun ir22 Fr22 Gr22 _ locs hp hH hS => ?_)
        obtain ⟨honr22, hdsr22, hlcr22⟩ := hp
        have hdsr22 : Int32.toInt (i 78 56) ≤ (ir22 78 56).toInt ∧ (ir22 78 56).toInt ≤ Int32.toInt (i 78 56) + 1 + Int32.toInt x21 := hdsr22
        have hlcr22 : Int32.toInt (ir22 78 64) = Int32.toInt x21 := congrArg Int32.toInt hlcr22
        have hTA : TA (Fr22 89) (Fr22 90) := by rw [show Fr22 89 = F 89 from (honr22.2 89 (by decide)).1, show Fr22 90 = F 90 from (honr22.2 90 (by decide)).1]; exact hTA
        have hi_78_17 : ir22 78 17 = nI 85 := (honr22.1 78 17 (Or.inr (by decide))).trans hi_78_17
        refine lv_aload_n (pc := 50) C0.1 C0.2.1 dX10_writeToken_50 rfl (lv_at hl 1 rfl) ?_
        refine xget (pc := 51) C0 hH 78 65 clX10 ⟨Nat.le_of_ble_eq_true rfl, Nat.le_of_ble_eq_true rfl⟩ ⟨rfl, rfl⟩ (Nat.le_of_ble_eq_true rfl) fl_X10_402 (v := .int (ir22 78 65)) rfl dX10_writeToken_51 ?_
        refine lv_if_ne (pc := 54) (tgt := 63) C0.1 C0.2.1 dX10_writeToken_54 (by decide) (fun c23 => ?_) (fun c23 => ?_)
        · have : Int32.toInt 0 = 0 := rfl
          have c23 : ¬ _ := fun q => c23 (Int32.toInt_inj.mp q)
          refine lv_aload_n (pc := 63) C0.1 C0.2.1 dX10_writeToken_63 rfl (lv_at hl 1 rfl) ?_
          refine lv_iload_n (pc := 64) C0.1 C0.2.1 dX10_writeToken_64 rfl (lv_at hl 3 rfl) ?_
          refine xcVV (pc := 65) 78 [.int y] (m_putToken l D tA b ir22 Fr22 Gr22 y (show 0 ≤ Int32.toInt (ir22 78 56) ∧ Int32.toInt (ir22 78 56) ≤ 1900000000 from by omega) hi_78_17 hTA (show 0 ≤ Int32.toInt y ∧ Int32.toInt y < 600 from by omega)) C0 hH hS clX10 rfl ⟨⟨Nat.le_of_ble_eq_true rfl, Nat.le_of_ble_eq_true rfl⟩, rfl, rfl⟩ cw_X10_393 rfl ⟨Nat.le_of_ble_eq_true rfl, Nat.le_of_ble_eq_true rfl⟩ hl.1 rfl (Nat.le_of_ble_eq_true rfl) dX10_writeToken_65 ⟨Nat.le_of_ble_eq_true rfl, Nat.le_of_ble_eq_true rfl⟩ (fun ir24 Fr24 Gr24 _ locs hp hH hS => ?_)
          obtain ⟨honr24, hdsr24⟩ := hp
          have hdsr24 : Int32.toInt (ir22 78 56) ≤ (ir24 78 56).toInt ∧ (ir24 78 56).toInt ≤ Int32.toInt (ir22 78 56) + 600 := hdsr24
          have hTA : TA (Fr24 89) (Fr24 90) := by rw [show Fr24 89 = Fr22 89 from (honr24.2 89 (by decide)).1, show Fr24 90 = Fr22 90 from (honr24.2 90 (by decide)).1]; exact hTA
          have hi_78_17 : ir24 78 17 = nI 85 := (honr24.1 78 17 (Or.inr (by decide))).trans hi_78_17
          have ek_64r24 : Int32.toInt (ir24 78 64) = Int32.toInt (ir22 78 64) := congrArg Int32.toInt (honr24.1 78 64 (Or.inr (by decide)))
          refine lv_aload_n (pc := 68) C0.1 C0.2.1 dX10_writeToken_68 rfl (lv_at hl 1 rfl) ?_
          refine lv_iconst (pc := 69) (v := 0) C0.1 C0.2.1 dX10_writeToken_69 (by decide) ?_
          refine xputI (pc := 70) C0 (Nat.le_of_ble_eq_true rfl) hH hS 78 65 clX10 ⟨Nat.le_of_ble_eq_true rfl, Nat.le_of_ble_eq_true rfl⟩ ⟨rfl, rfl⟩ ⟨Nat.le_of_ble_eq_true rfl, rfl, rfl⟩ fl_X10_402 (x := 0) ⟨rfl, rfl⟩ dX10_writeToken_70 (fun _ locs hH hS _ => ?_)
          have hH : Hd D tA b 78 52 zz (up2 ir24 78 65 0) Fr24 Gr24 _ := hH
          refine lv_aload_n (pc := 73) C0.1 C0.2.1 dX10_writeToken_73 rfl (lv_at hl 1 rfl) ?_
          refine xget (pc := 74) C0 hH 78 62 clX10 ⟨Nat.le_of_ble_eq_true rfl, Nat.le_of_ble_eq_true rfl⟩ ⟨rfl, rfl⟩ (Nat.le_of_ble_eq_true rfl) fl_X10_142 (v := .ref (b + 121)) rfl dX10_writeToken_74 ?_
          refine lv_iload_n (pc := 77) C0.1 C0.2.1 dX10_writeToken_77 rfl (lv_at hl 2 rfl) ?_
          refine lv_iconst (pc := 78) (v := 0) C0.1 C0.2.1 dX10_writeToken_78 (by decide) ?_
          refine xzast (pc := 79) (N := 1202) C0 (Nat.le_of_ble_eq_true rfl) hH hS 121 ⟨Nat.le_of_ble_eq_true rfl, Nat.le_of_ble_eq_true rfl⟩ ⟨rfl, rfl⟩ (by decide) (vI (by omega) (by omega)) dX10_writeToken_79 (fun _ locs hH hS => ?_)
          have hH : Hd D tA b 78 52 zz (up2 ir24 78 65 0) (va_up Fr24 121 (upd (Fr24 121) (Int32.toNatClampNeg x) 0)) Gr24 _ := hH
          exact xvret (pc := 80) C0 hr hH hS dX10_writeToken_80 ⟨(RO.f (RO.i (RO.tr (RO.tr RO.rf honr22 (by decide) (by decide)) honr24 (by decide) (by decide)) (by decide)) (by decide)), (show _ ≤ Int32.toInt (ir24 78 56) ∧ Int32.toInt (ir24 78 56) ≤ _ from by omega), (show 0 ≤ Int32.toInt (ir24 78 64) from by omega), (show Int32.toInt (ir24 78 64) ≤ _ ∨ Int32.toInt (ir24 78 64) ≤ _ from by omega)⟩
        · have : Int32.toInt 0 = 0 := rfl
          have c23 := congrArg Int32.toInt c23
          refine lv_aload_n (pc := 57) C0.1 C0.2.1 dX10_writeToken_57 rfl (lv_at hl 1 rfl) ?_
          refine lv_bipush (pc := 58) (v := 32) C0.1 C0.2.1 dX10_writeToken_58 (by decide) ?_
          refine xcVV (pc := 60) 78 [.int 32] (m_put l D tA b ir22 Fr22 Gr22 32 (show 0 ≤ Int32.toInt (ir22 78 56) ∧ Int32.toInt (ir22 78 56) ≤ 2000000000 from by omega) ) C0 hH hS clX10 rfl ⟨⟨Nat.le_of_ble_eq_true rfl, Nat.le_of_ble_eq_true rfl⟩, rfl, rfl⟩ cw_X10_372 rfl ⟨Nat.le_of_ble_eq_true rfl, Nat.le_of_ble_eq_true rfl⟩ hl.1 rfl (Nat.le_of_ble_eq_true rfl) dX10_writeToken_60 ⟨Nat.le_of_ble_eq_true rfl, Nat.le_of_ble_eq_true rfl⟩ (fun ir25 Fr25 Gr25 _ locs hp hH hS => ?_)
          obtain ⟨honr25, hdsr25⟩ := hp
          have hdsr25 : Int32.toInt (ir22 78 56) ≤ (ir25 78 56).toInt ∧ (ir25 78 56).toInt ≤ Int32.toInt (ir22 78 56) + 1 := hdsr25
          have hTA : TA (Fr25 89) (Fr25 90) := by rw [show Fr25 89 = Fr22 89 from (honr25.2 89 (by decide)).1, show Fr25 90 = Fr22 90 from (honr25.2 90 (by decide)).1]; exact hTA
          have hi_78_17 : ir25 78 17 = nI 85 := (honr25.1 78 17 (Or.inr (by decide))).trans hi_78_17
          have ek_64r25 : Int32.toInt (ir25 78 64) = Int32.toInt (ir22 78 64) := congrArg Int32.toInt (honr25.1 78 64 (Or.inr (by decide)))
          refine lv_aload_n (pc := 63) C0.1 C0.2.1 dX10_writeToken_63 rfl (lv_at hl 1 rfl) ?_
          refine lv_iload_n (pc := 64) C0.1 C0.2.1 dX10_writeToken_64 rfl (lv_at hl 3 rfl) ?_
          refine xcVV (pc := 65) 78 [.int y] (m_putToken l D tA b ir25 Fr25 Gr25 y (show 0 ≤ Int32.toInt (ir25 78 56) ∧ Int32.toInt (ir25 78 56) ≤ 1900000000 from by omega) hi_78_17 hTA (show 0 ≤ Int32.toInt y ∧ Int32.toInt y < 600 from by omega)) C0 hH hS clX10 rfl ⟨⟨Nat.le_of_ble_eq_true rfl, Nat.le_of_ble_eq_true rfl⟩, rfl, rfl⟩ cw_X10_393 rfl ⟨Nat.le_of_ble_eq_true rfl, Nat.le_of_ble_eq_true rfl⟩ hl.1 rfl (Nat.le_of_ble_eq_true rfl) dX10_writeToken_65 ⟨Nat.le_of_ble_eq_true rfl, Nat.le_of_ble_eq_true rfl⟩ (fun ir26 Fr26 Gr26 _ locs hp hH hS => ?_)
          obtain ⟨honr26, hdsr26⟩ := hp
          have hdsr26 : Int32.toInt (ir25 78 56) ≤ (ir26 78 56).toInt ∧ (ir26 78 56).toInt ≤ Int32.toInt (ir25 78 56) + 600 := hdsr26
          have hTA : TA (Fr26 89) (Fr26 90) := by rw [show Fr26 89 = Fr25 89 from (honr26.2 89 (by decide)).1, show Fr26 90 = Fr25 90 from (honr26.2 90 (by decide)).1]; exact hTA
          have hi_78_17 : ir26 78 17 = nI 85 := (honr26.1 78 17 (Or.inr (by decide))).trans hi_78_17
          have ek_64r26 : Int32.toInt (ir26 78 64) = Int32.toInt (ir25 78 64) := congrArg Int32.toInt (honr26.1 78 64 (Or.inr (by decide)))
          refine lv_aload_n (pc := 68) C0.1 C0.2.1 dX10_writeToken_68 rfl (lv_at hl 1 rfl) ?_
          refine lv_iconst (pc := 69) (v := 0) C0.1 C0.2.1 dX10_writeToken_69 (by decide) ?_
          refine xputI (pc := 70) C0 (Nat.le_of_ble_eq_true rfl) hH hS 78 65 clX10 ⟨Nat.le_of_ble_eq_true rfl, Nat.le_of_ble_eq_true rfl⟩ ⟨rfl, rfl⟩ ⟨Nat.le_of_ble_eq_true rfl, rfl, rfl⟩ fl_X10_402 (x := 0) ⟨rfl, rfl⟩ dX10_writeToken_70 (fun _ locs hH hS _ => ?_)
          have hH : Hd D tA b 78 52 zz (up2 ir26 78 65 0) Fr26 Gr26 _ := hH
          refine lv_aload_n (pc := 73) C0.1 C0.2.1 dX10_writeToken_73 rfl (lv_at hl 1 rfl) ?_
          refine xget (pc := 74) C0 hH 78 62 clX10 ⟨Nat.le_of_ble_eq_true rfl, Nat.le_of_ble_eq_true rfl⟩ ⟨rfl, rfl⟩ (Nat.le_of_ble_eq_true rfl) fl_X10_142 (v := .ref (b + 121)) rfl dX10_writeToken_74 ?_
          refine lv_iload_n (pc := 77) C0.1 C0.2.1 dX10_writeToken_77 rfl (lv_at hl 2 rfl) ?_
          refine lv_iconst (pc := 78) (v := 0) C0.1 C0.2.1 dX10_writeToken_78 (by decide) ?_
          refine xzast (pc := 79) (N := 1202) C0 (Nat.le_of_ble_eq_true rfl) hH hS 121 ⟨Nat.le_of_ble_eq_true rfl, Nat.le_of_ble_eq_true rfl⟩ ⟨rfl, rfl⟩ (by decide) (vI (by omega) (by omega)) dX10_writeToken_79 (fun _ locs hH hS => ?_)
          have hH : Hd D tA b 78 52 zz (up2 ir26 78 65 0) (va_up Fr26 121 (upd (Fr26 121) (Int32.toNatClampNeg x) 0)) Gr26 _ := hH
          exact xvret (pc := 80) C0 hr hH hS dX10_writeToken_80 ⟨(RO.f (RO.i (RO.tr (RO.tr (RO.tr RO.rf honr22 (by decide) (by decide)) honr25 (by decide) (by decide)) honr26 (by decide) (by decide)) (by decide)) (by decide)), (show _ ≤ Int32.toInt (ir26 78 56) ∧ Int32.toInt (ir26 78 56) ≤ _ from by omega), (show 0 ≤ Int32.toInt (ir26 78 64) from by omega), (show Int32.toInt (ir26 78 64) ≤ _ ∨ Int32.toInt (ir26 78 64) ≤ _ from by omega)⟩
set_option maxHeartbeats 4000000 in
set_option maxRecDepth 100000 in
theorem m_writePart (l : Launch) (D : va_G) (tA : Nat → ClassId) (b : Nat) (i F : Nat → Nat → Int32) (G : Nat → Nat → Int64) (x y z : Int32) (hd : 0 ≤ x.toInt ∧ x.toInt < 1202) (hb : 0 ≤ (F 116 (Int32.toNatClampNeg x)).toInt ∧ (F 116 (Int32.toNatClampNeg x)).toInt < 1202) (hgl : 0 ≤ (F 120 (Int32.toNatClampNeg x)).toInt ∧ (F 120 (Int32.toNatClampNeg x)).toInt ≤ 150000) (hz : 1 ≤ z.toInt ∧ z.toInt ≤ 8) (hds : 0 ≤ (i 78 56).toInt ∧ (i 78 56).toInt ≤ 1000000000) (hlc : 0 ≤ (i 78 64).toInt ∧ (i 78 64).toInt ≤ 150000) (hTA : TA (F 89) (F 90)) (hi_78_17 : i 78 17 = nI 85) (hv : (0 ≤ y.toInt ∧ y.toInt < 600) ∨ (y.toInt ≤ -101 ∧ -100 - y.toInt < 1202 ∧ 0 ≤ (i 78 63).toInt ∧ (i 78 63).toInt ≤ -100 - y.toInt)) : xMV l yX10_writePart cX10_writePart 5 none 3 67 D tA b 78 52 i F G [.ref (b + 78), .int x, .int y, .int z] (fun u => RO [56, 63, 64, 65] [115, 116, 117, 118, 119, 121] i F G u ∧ ((0 ≤ y.toInt ∧ RO [56, 64, 65] [115, 121] i F G u ∧ ((i 78 56).toInt ≤ (u.1 78 56).toInt ∧ (u.1 78 56).toInt ≤ (i 78 56).toInt + (F 120 (Int32.toNatClampNeg x)).toInt + 620) ∧ 0 ≤ (u.1 78 64).toInt ∧ ((u.1 78 64).toInt ≤ (i 78 64).toInt ∨ (u.1 78 64).toInt ≤ (F 120 (Int32.toNatClampNeg x)).toInt + 8)) ∨ (y.toInt < 0 ∧ RO [63] [116, 117, 118, 119, 121] i F G u ∧ (u.1 78 63).toInt = (i 78 63).toInt + 1 ∧ ∃ xc xt : Int32, xc.toInt = -100 - y.toInt ∧ xt.toInt = (i 78 64).toInt + 2 * z.toInt ∧ u.2.1 116 = upd (F 116) (Int32.toNatClampNeg (i 78 63)) xc ∧ u.2.1 117 = upd (F 117) (Int32.toNatClampNeg (i 78 63)) (F 103 (Int32.toNatClampNeg xc)) ∧ u.2.1 118 = upd (F 118) (Int32.toNatClampNeg (i 78 63)) (-1) ∧ u.2.1 119 = upd (F 119) (Int32.toNatClampNeg (i 78 63)) xt))) := by
  refine xstart RX10 rfl (by decide) (Nat.le_of_ble_eq_true rfl) ?_
  intro p e s m below meth c ls C0 hr hH hS hl
  have hl : lv_has ls 5 [(0, .ref (b + 78)), (1, .int x), (2, .int y), (3, .int z)] := hl
  have rg_x := fb_rng x
  have rg_y := fb_rng y
  have rg_z := fb_rng z
  refine lv_iload_n (pc := 0) C0.1 C0.2.1 dX10_writePart_0 rfl (lv_at hl 2 rfl) ?_
  refine lv_if_lt (pc := 1) (tgt := 12) C0.1 C0.2.1 dX10_writePart_1 (by decide) (fun c1 => ?_) (fun c1 => ?_)
  · have : Int32.toInt 0 = 0 := rfl
    have c1 := Int32.lt_iff_toInt_lt.mp c1
    refine lv_bipush (pc := 12) (v := (-100)) C0.1 C0.2.1 dX10_writePart_12 (by decide) ?_
    refine lv_iload_n (pc := 14) C0.1 C0.2.1 dX10_writePart_14 rfl (lv_at hl 2 rfl) ?_
    have : Int32.toInt (-100) = (-100) := rfl
    refine lv_isub (pc := 15) C0.1 C0.2.1 dX10_writePart_15 ?_
    refine lv_topi (fun x2 ex2 => ?_)
    have hx2 : Int32.toInt x2 = Int32.toInt (-100) - Int32.toInt y := by rw [ex2]; exact fb_subI (by omega) (by omega)
    refine lv_istore (pc := 16) (lv' := [(4, .int x2), (0, .ref (b + 78)), (1, .int x), (2, .int y), (3, .int z)]) C0.1 C0.2.1 dX10_writePart_16 hl (by decide) rfl (fun ls hl => ?_)
    refine lv_aload_n (pc := 18) C0.1 C0.2.1 dX10_writePart_18 rfl (lv_at hl 1 rfl) ?_
    refine xget (pc := 19) C0 hH 78 62 clX10 ⟨Nat.le_of_ble_eq_true rfl, Nat.le_of_ble_eq_true rfl⟩ ⟨rfl, rfl⟩ (Nat.le_of_ble_eq_true rfl) fl_X10_142 (v := .ref (b + 121)) rfl dX10_writePart_19 ?_
    refine lv_iload_n (pc := 22) C0.1 C0.2.1 dX10_writePart_22 rfl (lv_at hl 2 rfl) ?_
    refine lv_aload_n (pc := 23) C0.1 C0.2.1 dX10_writePart_23 rfl (lv_at hl 1 rfl) ?_
    refine lv_iload (pc := 24) C0.1 C0.2.1 dX10_writePart_24 (lv_at hl 0 rfl) ?_
    refine xcVI (pc := 26) 78 [.int x2] (m_isStanding l D tA b i F G x2 (show 0 ≤ Int32.toInt x2 ∧ Int32.toInt x2 < 1202 from by omega)) C0 hH hS clX10 rfl ⟨⟨Nat.le_of_ble_eq_true rfl, Nat.le_of_ble_eq_true rfl⟩, rfl, rfl⟩ cw_X10_387 rfl ⟨Nat.le_of_ble_eq_true rfl, Nat.le_of_ble_eq_true rfl⟩ hl.1 rfl (Nat.le_of_ble_eq_true rfl) dX10_writePart_26 ⟨Nat.le_of_ble_eq_true rfl, Nat.le_of_ble_eq_true rfl⟩ (fun r3 ir3 Fr3 Gr3 _ locs hp hH hS => ?_)
    obtain ⟨hu, h01r3⟩ := hp
    cases hu
    refine lv_if_eq (pc := 29) (tgt := 46) C0.1 C0.2.1 dX10_writePart_29 (by decide) (fun c4 => ?_) (fun c4 => ?_)
    · have : Int32.toInt 0 = 0 := rfl
      have c4 := congrArg Int32.toInt c4
      refine lv_iconst (pc := 46) (v := 0) C0.1 C0.2.1 dX10_writePart_46 (by decide) ?_
      refine xzast (pc := 47) (N := 1202) C0 (Nat.le_of_ble_eq_true rfl) hH hS 121 ⟨Nat.le_of_ble_eq_true rfl, Nat.le_of_ble_eq_true rfl⟩ ⟨rfl, rfl⟩ (by decide) (vI (by omega) (by omega)) dX10_writePart_47 (fun _ locs hH hS => ?_)
      have hH : Hd D tA b 78 52 zz i (va_up F 121 (upd (F 121) (Int32.toNatClampNeg x) 0)) G _ := hH
      refine lv_aload_n (pc := 48) C0.1 C0.2.1 dX10_writePart_48 rfl (lv_at hl 1 rfl) ?_
      refine lv_iload (pc := 49) C0.1 C0.2.1 dX10_writePart_49 (lv_at hl 0 rfl) ?_
      refine lv_aload_n (pc := 51) C0.1 C0.2.1 dX10_writePart_51 rfl (lv_at hl 1 rfl) ?_
      refine xget (pc := 52) C0 hH 78 64 clX10 ⟨Nat.le_of_ble_eq_true rfl, Nat.le_of_ble_eq_true rfl⟩ ⟨rfl, rfl⟩ (Nat.le_of_ble_eq_true rfl) fl_X10_399 (v := .int (i 78 64)) rfl dX10_writePart_52 ?_
      refine lv_iconst (pc := 55) (v := 2) C0.1 C0.2.1 dX10_writePart_55 (by decide) ?_
      refine lv_iload_n (pc := 56) C0.1 C0.2.1 dX10_writePart_56 rfl (lv_at hl 4 rfl) ?_
      refine lv_imul (pc := 57) C0.1 C0.2.1 dX10_writePart_57 ?_
      refine lv_topi (fun x5 ex5 => ?_)
      have hx5 : Int32.toInt x5 = 2 * Int32.toInt z := by rw [ex5]; exact (fb_mulI (by rw [show Int32.toInt 2 = 2 from rfl]; omega) (by rw [show Int32.toInt 2 = 2 from rfl]; omega)).trans (by rw [show Int32.toInt 2 = 2 from rfl])
      refine lv_iadd (pc := 58) C0.1 C0.2.1 dX10_writePart_58 ?_
      refine lv_topi (fun x6 ex6 => ?_)
      have hx6 : Int32.toInt x6 = Int32.toInt (i 78 64) + Int32.toInt x5 := by rw [ex6]; exact fb_addI (by omega) (by omega)
      refine xcVV (pc := 59) 78 [.int x2, .int x6] (m_enter l D tA b i (va_up F 121 (upd (F 121) (Int32.toNatClampNeg x) 0)) G x2 x6 (show 0 ≤ Int32.toInt x2 ∧ Int32.toInt x2 < 1202 from by omega) (show 0 ≤ Int32.toInt (i 78 63) ∧ Int32.toInt (i 78 63) < 1202 from by first | omega | decide)) C0 hH hS clX10 rfl ⟨⟨Nat.le_of_ble_eq_true rfl, Nat.le_of_ble_eq_true rfl⟩, rfl, rfl⟩ cw_X10_384 rfl ⟨Nat.le_of_ble_eq_true rfl, Nat.le_of_ble_eq_true rfl⟩ hl.1 rfl (Nat.le_of_ble_eq_true rfl) dX10_writePart_59 ⟨Nat.le_of_ble_eq_true rfl, Nat.le_of_ble_eq_true rfl⟩ (fun ir7 Fr7 Gr7 _ locs hp hH hS => ?_)
      obtain ⟨honr7, hdpr7, h116r7, h117r7, h118r7, h119r7⟩ := hp
      have hdpr7 : (ir7 78 63).toInt = Int32.toInt (i 78 63) + 1 := hdpr7
      have h116r7 : Fr7 116 = upd ((va_up F 121 (upd (F 121) (Int32.toNatClampNeg x) 0)) 116) (Int32.toNatClampNeg (i 78 63)) x2 := h116r7
      have h117r7 : Fr7 117 = upd ((va_up F 121 (upd (F 121) (Int32.toNatClampNeg x) 0)) 117) (Int32.toNatClampNeg (i 78 63)) ((va_up F 121 (upd (F 121) (Int32.toNatClampNeg x) 0)) 103 (Int32.toNatClampNeg x2)) := h117r7
      have h118r7 : Fr7 118 = upd ((va_up F 121 (upd (F 121) (Int32.toNatClampNeg x) 0)) 118) (Int32.toNatClampNeg (i 78 63)) (-1) := h118r7
      have h119r7 : Fr7 119 = upd ((va_up F 121 (upd (F 121) (Int32.toNatClampNeg x) 0)) 119) (Int32.toNatClampNeg (i 78 63)) x6 := h119r7
      have hi_78_17 : ir7 78 17 = nI 85 := (honr7.1 78 17 (Or.inr (by decide))).trans hi_78_17
      have ek_56r7 : Int32.toInt (ir7 78 56) = Int32.toInt (i 78 56) := congrArg Int32.toInt (honr7.1 78 56 (Or.inr (by decide)))
      have ek_64r7 : Int32.toInt (ir7 78 64) = Int32.toInt (i 78 64) := congrArg Int32.toInt (honr7.1 78 64 (Or.inr (by decide)))
      exact xvret (pc := 62) C0 hr hH hS dX10_writePart_62 ⟨(RO.tr (RO.f RO.rf (by decide)) honr7 (by decide) (by decide)), Or.inr ⟨by have : Int32.toInt 0 = 0 := rfl; omega, (RO.tr (RO.f RO.rf (by decide)) honr7 (by decide) (by decide)), hdpr7, x2, x6, by omega, by omega, h116r7, h117r7, h118r7, h119r7⟩⟩
    · have : Int32.toInt 0 = 0 := rfl
      have c4 : ¬ _ := fun q => c4 (Int32.toInt_inj.mp q)
      refine lv_aload_n (pc := 32) C0.1 C0.2.1 dX10_writePart_32 rfl (lv_at hl 1 rfl) ?_
      refine xget (pc := 33) C0 hH 78 37 clX10 ⟨Nat.le_of_ble_eq_true rfl, Nat.le_of_ble_eq_true rfl⟩ ⟨rfl, rfl⟩ (Nat.le_of_ble_eq_true rfl) fl_X10_85 (v := .ref (b + 102)) rfl dX10_writePart_33 ?_
      refine lv_iload (pc := 36) C0.1 C0.2.1 dX10_writePart_36 (lv_at hl 0 rfl) ?_
      refine xiald (pc := 38) (N := 1202) C0 hH 102 ⟨Nat.le_of_ble_eq_true rfl, Nat.le_of_ble_eq_true rfl⟩ ⟨rfl, rfl⟩ (vI (by omega) (by omega)) dX10_writePart_38 ?_
      refine lv_if_le (pc := 39) (tgt := 46) C0.1 C0.2.1 dX10_writePart_39 (by decide) (fun c8 => ?_) (fun c8 => ?_)
      · have : Int32.toInt 0 = 0 := rfl
        have c8 := Int32.le_iff_toInt_le.mp c8
        refine lv_iconst (pc := 46) (v := 0) C0.1 C0.2.1 dX10_writePart_46 (by decide) ?_
        refine xzast (pc := 47) (N := 1202) C0 (Nat.le_of_ble_eq_true rfl) hH hS 121 ⟨Nat.le_of_ble_eq_true rfl, Nat.le_of_ble_eq_true rfl⟩ ⟨rfl, rfl⟩ (by decide) (vI (by omega) (by omega)) dX10_writePart_47 (fun _ locs hH hS => ?_)
        have hH : Hd D tA b 78 52 zz i (va_up F 121 (upd (F 121) (Int32.toNatClampNeg x) 0)) G _ := hH
        refine lv_aload_n (pc := 48) C0.1 C0.2.1 dX10_writePart_48 rfl (lv_at hl 1 rfl) ?_
        refine lv_iload (pc := 49) C0.1 C0.2.1 dX10_writePart_49 (lv_at hl 0 rfl) ?_
        refine lv_aload_n (pc := 51) C0.1 C0.2.1 dX10_writePart_51 rfl (lv_at hl 1 rfl) ?_
        refine xget (pc := 52) C0 hH 78 64 clX10 ⟨Nat.le_of_ble_eq_true rfl, Nat.le_of_ble_eq_true rfl⟩ ⟨rfl, rfl⟩ (Nat.le_of_ble_eq_true rfl) fl_X10_399 (v := .int (i 78 64)) rfl dX10_writePart_52 ?_
        refine lv_iconst (pc := 55) (v := 2) C0.1 C0.2.1 dX10_writePart_55 (by decide) ?_
        refine lv_iload_n (pc := 56) C0.1 C0.2.1 dX10_writePart_56 rfl (lv_at hl 4 rfl) ?_
        refine lv_imul (pc := 57) C0.1 C0.2.1 dX10_writePart_57 ?_
        refine lv_topi (fun x9 ex9 => ?_)
        have hx9 : Int32.toInt x9 = 2 * Int32.toInt z := by rw [ex9]; exact (fb_mulI (by rw [show Int32.toInt 2 = 2 from rfl]; omega) (by rw [show Int32.toInt 2 = 2 from rfl]; omega)).trans (by rw [show Int32.toInt 2 = 2 from rfl])
        refine lv_iadd (pc := 58) C0.1 C0.2.1 dX10_writePart_58 ?_
        refine lv_topi (fun x10 ex10 => ?_)
        have hx10 : Int32.toInt x10 = Int32.toInt (i 78 64) + Int32.toInt x9 := by rw [ex10]; exact fb_addI (by omega) (by omega)
        refine xcVV (pc := 59) 78 [.int x2, .int x10] (m_enter l D tA b i (va_up F 121 (upd (F 121) (Int32.toNatClampNeg x) 0)) G x2 x10 (show 0 ≤ Int32.toInt x2 ∧ Int32.toInt x2 < 1202 from by omega) (show 0 ≤ Int32.toInt (i 78 63) ∧ Int32.toInt (i 78 63) < 1202 from by first | omega | decide)) C0 hH hS clX10 rfl ⟨⟨Nat.le_of_ble_eq_true rfl, Nat.le_of_ble_eq_true rfl⟩, rfl, rfl⟩ cw_X10_384 rfl ⟨Nat.le_of_ble_eq_true rfl, Nat.le_of_ble_eq_true rfl⟩ hl.1 rfl (Nat.le_of_ble_eq_true rfl) dX10_writePart_59 ⟨Nat.le_of_ble_eq_true rfl, Nat.le_of_ble_eq_true rfl⟩ (fun ir11 Fr11 Gr11 _ locs hp hH hS => ?_)
        obtain ⟨honr11, hdpr11, h116r11, h117r11, h118r11, h119r11⟩ := hp
        have hdpr11 : (ir11 78 63).toInt = Int32.toInt (i 78 63) + 1 := hdpr11
        have h116r11 : Fr11 116 = upd ((va_up F 121 (upd (F 121) (Int32.toNatClampNeg x) 0)) 116) (Int32.toNatClampNeg (i 78 63)) x2 := h116r11
        have h117r11 : Fr11 117 = upd ((va_up F 121 (upd (F 121) (Int32.toNatClampNeg x) 0)) 117) (Int32.toNatClampNeg (i 78 63)) ((va_up F 121 (upd (F 121) (Int32.toNatClampNeg x) 0)) 103 (Int32.toNatClampNeg x2)) := h117r11
        have h118r11 : Fr11 118 = upd ((va_up F 121 (upd (F 121) (Int32.toNatClampNeg x) 0)) 118) (Int32.toNatClampNeg (i 78 63)) (-1) := h118r11
        have h119r11 : Fr11 119 = upd ((va_up F 121 (upd (F 121) (Int32.toNatClampNeg x) 0)) 119) (Int32.toNatClampNeg (i 78 63)) x10 := h119r11
        have hi_78_17 : ir11 78 17 = nI 85 := (honr11.1 78 17 (Or.inr (by decide))).trans hi_78_17
        have ek_56r11 : Int32.toInt (ir11 78 56) = Int32.toInt (i 78 56) := congrArg Int32.toInt (honr11.1 78 56 (Or.inr (by decide)))
        have ek_64r11 : Int32.toInt (ir11 78 64) = Int32.toInt (i 78 64) := congrArg Int32.toInt (honr11.1 78 64 (Or.inr (by decide)))
        exact xvret (pc := 62) C0 hr hH hS dX10_writePart_62 ⟨(RO.tr (RO.f RO.rf (by decide)) honr11 (by decide) (by decide)), Or.inr ⟨by have : Int32.toInt 0 = 0 := rfl; omega, (RO.tr (RO.f RO.rf (by decide)) honr11 (by decide) (by decide)), hdpr11, x2, x10, by omega, by omega, h116r11, h117r11, h118r11, h119r11⟩⟩
      · have : Int32.toInt 0 = 0 := rfl
        have c8 : ¬ _ := fun q => c8 (Int32.le_iff_toInt_le.mpr q)
        refine lv_iconst (pc := 42) (v := 1) C0.1 C0.2.1 dX10_writePart_42 (by decide) ?_
        refine lv_goto (pc := 43) (tgt := 47) C0.1 C0.2.1 dX10_writePart_43 (by decide) ?_
        refine xzast (pc := 47) (N := 1202) C0 (Nat.le_of_ble_eq_true rfl) hH hS 121 ⟨Nat.le_of_ble_eq_true rfl, Nat.le_of_ble_eq_true rfl⟩ ⟨rfl, rfl⟩ (by decide) (vI (by omega) (by omega)) dX10_writePart_47 (fun _ locs hH hS => ?_)
        have hH : Hd D tA b 78 52 zz i (va_up F 121 (upd (F 121) (Int32.toNatClampNeg x) 1)) G _ := hH
        refine lv_aload_n (pc := 48) C0.1 C0.2.1 dX10_writePart_48 rfl (lv_at hl 1 rfl) ?_
        refine lv_iload (pc := 49) C0.1 C0.2.1 dX10_writePart_49 (lv_at hl 0 rfl) ?_
        refine lv_aload_n (pc := 51) C0.1 C0.2.1 dX10_writePart_51 rfl (lv_at hl 1 rfl) ?_
        refine xget (pc := 52) C0 hH 78 64 clX10 ⟨Nat.le_of_ble_eq_true rfl, Nat.le_of_ble_eq_true rfl⟩ ⟨rfl, rfl⟩ (Nat.le_of_ble_eq_true rfl) fl_X10_399 (v := .int (i 78 64)) rfl dX10_writePart_52 ?_
        refine lv_iconst (pc := 55) (v := 2) C0.1 C0.2.1 dX10_writePart_55 (by decide) ?_
        refine lv_iload_n (pc := 56) C0.1 C0.2.1 dX10_writePart_56 rfl (lv_at hl 4 rfl) ?_
        refine lv_imul (pc := 57) C0.1 C0.2.1 dX10_writePart_57 ?_
        refine lv_topi (fun x12 ex12 => ?_)
        have hx12 : Int32.toInt x12 = 2 * Int32.toInt z := by rw [ex12]; exact (fb_mulI (by rw [show Int32.toInt 2 = 2 from rfl]; omega) (by rw [show Int32.toInt 2 = 2 from rfl]; omega)).trans (by rw [show Int32.toInt 2 = 2 from rfl])
        refine lv_iadd (pc := 58) C0.1 C0.2.1 dX10_writePart_58 ?_
        refine lv_topi (fun x13 ex13 => ?_)
        have hx13 : Int32.toInt x13 = Int32.toInt (i 78 64) + Int32.toInt x12 := by rw [ex13]; exact fb_addI (by omega) (by omega)
        refine xcVV (pc := 59) 78 [.int x2, .int x13] (m_enter l D tA b i (va_up F 121 (upd (F 121) (Int32.toNatClampNeg x) 1)) G x2 x13 (show 0 ≤ Int32.toInt x2 ∧ Int32.toInt x2 < 1202 from by omega) (show 0 ≤ Int32.toInt (i 78 63) ∧ Int32.toInt (i 78 63) < 1202 from by first | omega | decide)) C0 hH hS clX10 rfl ⟨⟨Nat.le_of_ble_eq_true rfl, Nat.le_of_ble_eq_true rfl⟩, rfl, rfl⟩ cw_X10_384 rfl ⟨Nat.le_of_ble_eq_true rfl, Nat.le_of_ble_eq_true rfl⟩ hl.1 rfl (Nat.le_of_ble_eq_true rfl) dX10_writePart_59 ⟨Nat.le_of_ble_eq_true rfl, Nat.le_of_ble_eq_true rfl⟩ (fun ir14 Fr14 Gr14 _ locs hp hH hS => ?_)
        obtain ⟨honr14, hdpr14, h116r14, h117r14, h118r14, h119r14⟩ := hp
        have hdpr14 : (ir14 78 63).toInt = Int32.toInt (i 78 63) + 1 := hdpr14
        have h116r14 : Fr14 116 = upd ((va_up F 121 (upd (F 121) (Int32.toNatClampNeg x) 1)) 116) (Int32.toNatClampNeg (i 78 63)) x2 := h116r14
        have h117r14 : Fr14 117 = upd ((va_up F 121 (upd (F 121) (Int32.toNatClampNeg x) 1)) 117) (Int32.toNatClampNeg (i 78 63)) ((va_up F 121 (upd (F 121) (Int32.toNatClampNeg x) 1)) 103 (Int32.toNatClampNeg x2)) := h117r14
        have h118r14 : Fr14 118 = upd ((va_up F 121 (upd (F 121) (Int32.toNatClampNeg x) 1)) 118) (Int32.toNatClampNeg (i 78 63)) (-1) := h118r14
        have h119r14 : Fr14 119 = upd ((va_up F 121 (upd (F 121) (Int32.toNatClampNeg x) 1)) 119) (Int32.toNatClampNeg (i 78 63)) x13 := h119r14
        have hi_78_17 : ir14 78 17 = nI 85 := (honr14.1 78 17 (Or.inr (by decide))).trans hi_78_17
        have ek_56r14 : Int32.toInt (ir14 78 56) = Int32.toInt (i 78 56) := congrArg Int32.toInt (honr14.1 78 56 (Or.inr (by decide)))
        have ek_64r14 : Int32.toInt (ir14 78 64) = Int32.toInt (i 78 64) := congrArg Int32.toInt (honr14.1 78 64 (Or.inr (by decide)))
        exact xvret (pc := 62) C0 hr hH hS dX10_writePart_62 ⟨(RO.tr (RO.f RO.rf (by decide)) honr14 (by decide) (by decide)), Or.inr ⟨by have : Int32.toInt 0 = 0 := rfl; omega, (RO.tr (RO.f RO.rf (by decide)) honr14 (by decide) (by decide)), hdpr14, x2, x13, by omega, by omega, h116r14, h117r14, h118r14, h119r14⟩⟩
  · have : Int32.toInt 0 = 0 := rfl
    have c1 : ¬ _ := fun q => c1 (Int32.lt_iff_toInt_lt.mpr q)
    refine lv_aload_n (pc := 4) C0.1 C0.2.1 dX10_writePart_4 rfl (lv_at hl 0 rfl) ?_
    refine lv_iload_n (pc := 5) C0.1 C0.2.1 dX10_writePart_5 rfl (lv_at hl 1 rfl) ?_
    refine lv_iload_n (pc := 6) C0.1 C0.2.1 dX10_writePart_6 rfl (lv_at hl 2 rfl) ?_
    refine lv_iload_n (pc := 7) C0.1 C0.2.1 dX10_writePart_7 rfl (lv_at hl 3 rfl) ?_
    refine xcVV (pc := 8) 78 [.int x, .int y, .int z] (m_writeToken l D tA b i F G x y z hd hb hgl hz hds hlc hTA hi_78_17 (show 0 ≤ Int32.toInt y ∧ Int32.toInt y < 600 from by omega)) C0 hH hS clX10 rfl ⟨⟨Nat.le_of_ble_eq_true rfl, Nat.le_of_ble_eq_true rfl⟩, rfl, rfl⟩ cw_X10_409 rfl ⟨Nat.le_of_ble_eq_true rfl, Nat.le_of_ble_eq_true rfl⟩ hl.1 rfl (Nat.le_of_ble_eq_true rfl) dX10_writePart_8 ⟨Nat.le_of_ble_eq_true rfl, Nat.le_of_ble_eq_true rfl⟩ (fun ir15 Fr15 Gr15 _ locs hp hH hS => ?_)
    obtain ⟨honr15, hwtr15⟩ := hp
    have hi_78_17 : ir15 78 17 = nI 85 := (honr15.1 78 17 (Or.inr (by decide))).trans hi_78_17
    exact xvret (pc := 11) C0 hr hH hS dX10_writePart_11 ⟨(RO.tr RO.rf honr15 (by decide) (by decide)), Or.inl ⟨by have : Int32.toInt 0 = 0 := rfl; omega, honr15, hwtr15⟩⟩
