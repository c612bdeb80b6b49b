set_option maxRecDepth 20000 in
theorem fl_X10_369 : Cond.fieldLink RX10 369 (TX10 56).1 (TX10 56).2.1 (TX10 56).2.2.1 ∈ WALL := wm 1080 (by decide +kernel) rfl
set_option maxRecDepth 20000 in
theorem cw_X10_372 : CwV RX10 372 yX10_put cX10_put 2 none 1 := ⟨wm 1522 (by decide +kernel) rfl, wm 1524 (by decide +kernel) rfl, wms 73 (by decide +kernel) rfl, wm 11 (by decide +kernel) rfl, wm 1525 rfl rfl, by decide +kernel⟩
set_option maxRecDepth 20000 in
theorem cw_X10_381 : CwV RX10 381 yX10_blank cX10_blank 1 none 0 := ⟨wm 1518 (by decide +kernel) rfl, wm 1520 (by decide +kernel) rfl, wms 72 (by decide +kernel) rfl, wm 11 (by decide +kernel) rfl, wm 1521 rfl rfl, by decide +kernel⟩
set_option maxRecDepth 20000 in
theorem fl_X10_375 : Cond.fieldLink RX10 375 (TX10 63).1 (TX10 63).2.1 (TX10 63).2.2.1 ∈ WALL := wm 1087 (by decide +kernel) rfl
theorem dX10_put_0 : decode cX10_put 0 = .ok (.aload_n 0, 1) := by decide +kernel
theorem dX10_put_1 : decode cX10_put 1 = .ok (.getfield 369, 3) := by decide +kernel
theorem dX10_put_4 : decode cX10_put 4 = .ok (.sipush 4000, 3) := by decide +kernel
theorem dX10_put_7 : decode cX10_put 7 = .ok (.if_icmp .ge 14, 3) := by decide +kernel
theorem dX10_put_21 : decode cX10_put 21 = .ok (.aload_n 0, 1) := by decide +kernel
theorem dX10_put_22 : decode cX10_put 22 = .ok (.dup, 1) := by decide +kernel
theorem dX10_put_23 : decode cX10_put 23 = .ok (.getfield 369, 3) := by decide +kernel
theorem dX10_put_26 : decode cX10_put 26 = .ok (.iconst 1, 1) := by decide +kernel
theorem dX10_put_27 : decode cX10_put 27 = .ok (.iadd, 1) := by decide +kernel
theorem dX10_put_28 : decode cX10_put 28 = .ok (.putfield 369, 3) := by decide +kernel
theorem dX10_put_31 : decode cX10_put 31 = .ok (.return_, 1) := by decide +kernel
theorem dX10_put_10 : decode cX10_put 10 = .ok (.aload_n 0, 1) := by decide +kernel
theorem dX10_put_11 : decode cX10_put 11 = .ok (.getfield 124, 3) := by decide +kernel
theorem dX10_put_14 : decode cX10_put 14 = .ok (.aload_n 0, 1) := by decide +kernel
theorem dX10_put_15 : decode cX10_put 15 = .ok (.getfield 369, 3) := by decide +kernel
theorem dX10_put_18 : decode cX10_put 18 = .ok (.iload_n 1, 1) := by decide +kernel
theorem dX10_put_19 : decode cX10_put 19 = .ok (.i2b, 1) := by decide +kernel
theorem dX10_put_20 : decode cX10_put 20 = .ok (.bastore, 1) := by decide +kernel
theorem dX10_blank_0 : decode cX10_blank 0 = .ok (.aload_n 0, 1) := by decide +kernel
theorem dX10_blank_1 : decode cX10_blank 1 = .ok (.getfield 369, 3) := by decide +kernel
theorem dX10_blank_4 : decode cX10_blank 4 = .ok (.ifCond .le 9, 3) := by decide +kernel
theorem dX10_blank_13 : decode cX10_blank 13 = .ok (.return_, 1) := by decide +kernel
theorem dX10_blank_7 : decode cX10_blank 7 = .ok (.aload_n 0, 1) := by decide +kernel
theorem dX10_blank_8 : decode cX10_blank 8 = .ok (.bipush 32, 2) := by decide +kernel
theorem dX10_blank_10 : decode cX10_blank 10 = .ok (.invokevirtual 372, 3) := by decide +kernel
theorem dX10_sign_0 : decode cX10_sign 0 = .ok (.aload_n 0, 1) := by decide +kernel
theorem dX10_sign_1 : decode cX10_sign 1 = .ok (.invokevirtual 381, 3) := by decide +kernel
theorem dX10_sign_4 : decode cX10_sign 4 = .ok (.aload_n 0, 1) := by decide +kernel
theorem dX10_sign_5 : decode cX10_sign 5 = .ok (.iload_n 1, 1) := by decide +kernel
theorem dX10_sign_6 : decode cX10_sign 6 = .ok (.invokevirtual 372, 3) := by decide +kernel
theorem dX10_sign_9 : decode cX10_sign 9 = .ok (.return_, 1) := by decide +kernel
theorem dX10_putToken_2 : decode cX10_putToken 2 = .ok (.iload_n 2, 1) := by decide +kernel
theorem dX10_putToken_3 : decode cX10_putToken 3 = .ok (.aload_n 0, 1) := by decide +kernel
theorem dX10_putToken_4 : decode cX10_putToken 4 = .ok (.getfield 48, 3) := by decide +kernel
theorem dX10_putToken_7 : decode cX10_putToken 7 = .ok (.iload_n 1, 1) := by decide +kernel
theorem dX10_putToken_8 : decode cX10_putToken 8 = .ok (.iaload, 1) := by decide +kernel
theorem dX10_putToken_9 : decode cX10_putToken 9 = .ok (.if_icmp .ge 26, 3) := by decide +kernel
theorem dX10_putToken_35 : decode cX10_putToken 35 = .ok (.return_, 1) := by decide +kernel
theorem dX10_putToken_12 : decode cX10_putToken 12 = .ok (.aload_n 0, 1) := by decide +kernel
theorem dX10_putToken_13 : decode cX10_putToken 13 = .ok (.aload_n 0, 1) := by decide +kernel
theorem dX10_putToken_14 : decode cX10_putToken 14 = .ok (.getfield 39, 3) := by decide +kernel
theorem dX10_putToken_17 : decode cX10_putToken 17 = .ok (.aload_n 0, 1) := by decide +kernel
theorem dX10_putToken_18 : decode cX10_putToken 18 = .ok (.getfield 45, 3) := by decide +kernel
theorem dX10_putToken_21 : decode cX10_putToken 21 = .ok (.iload_n 1, 1) := by decide +kernel
theorem dX10_putToken_22 : decode cX10_putToken 22 = .ok (.iaload, 1) := by decide +kernel
theorem dX10_putToken_23 : decode cX10_putToken 23 = .ok (.iload_n 2, 1) := by decide +kernel
theorem dX10_putToken_24 : decode cX10_putToken 24 = .ok (.iadd, 1) := by decide +kernel
theorem dX10_putToken_25 : decode cX10_putToken 25 = .ok (.baload, 1) := by decide +kernel
theorem dX10_putToken_26 : decode cX10_putToken 26 = .ok (.invokevirtual 372, 3) := by decide +kernel
theorem dX10_putToken_29 : decode cX10_putToken 29 = .ok (.iinc 2 1, 3) := by decide +kernel
theorem dX10_putToken_32 : decode cX10_putToken 32 = .ok (.goto (-30), 3) := by decide +kernel
theorem dX10_putToken_0 : decode cX10_putToken 0 = .ok (.iconst 0, 1) := by decide +kernel
theorem dX10_putToken_1 : decode cX10_putToken 1 = .ok (.istore_n 2, 1) := by decide +kernel
theorem dX10_isStanding_0 : decode cX10_isStanding 0 = .ok (.aload_n 0, 1) := by decide +kernel
theorem dX10_isStanding_1 : decode cX10_isStanding 1 = .ok (.getfield 73, 3) := by decide +kernel
theorem dX10_isStanding_4 : decode cX10_isStanding 4 = .ok (.iload_n 1, 1) := by decide +kernel
theorem dX10_isStanding_5 : decode cX10_isStanding 5 = .ok (.iaload, 1) := by decide +kernel
theorem dX10_isStanding_6 : decode cX10_isStanding 6 = .ok (.ifCond .eq 17, 3) := by decide +kernel
theorem dX10_isStanding_23 : decode cX10_isStanding 23 = .ok (.iconst 0, 1) := by decide +kernel
theorem dX10_isStanding_24 : decode cX10_isStanding 24 = .ok (.ireturn, 1) := by decide +kernel
theorem dX10_isStanding_9 : decode cX10_isStanding 9 = .ok (.aload_n 0, 1) := by decide +kernel
theorem dX10_isStanding_10 : decode cX10_isStanding 10 = .ok (.getfield 73, 3) := by decide +kernel
theorem dX10_isStanding_13 : decode cX10_isStanding 13 = .ok (.iload_n 1, 1) := by decide +kernel
theorem dX10_isStanding_14 : decode cX10_isStanding 14 = .ok (.iaload, 1) := by decide +kernel
theorem dX10_isStanding_15 : decode cX10_isStanding 15 = .ok (.iconst 4, 1) := by decide +kernel
theorem dX10_isStanding_16 : decode cX10_isStanding 16 = .ok (.if_icmp .eq 7, 3) := by decide +kernel
theorem dX10_isStanding_19 : decode cX10_isStanding 19 = .ok (.iconst 1, 1) := by decide +kernel
theorem dX10_isStanding_20 : decode cX10_isStanding 20 = .ok (.goto 4, 3) := by decide +kernel
theorem dX10_enter_0 : decode cX10_enter 0 = .ok (.aload_n 0, 1) := by decide +kernel
theorem dX10_enter_1 : decode cX10_enter 1 = .ok (.getfield 127, 3) := by decide +kernel
theorem dX10_enter_4 : decode cX10_enter 4 = .ok (.aload_n 0, 1) := by decide +kernel
theorem dX10_enter_5 : decode cX10_enter 5 = .ok (.getfield 375, 3) := by decide +kernel
theorem dX10_enter_8 : decode cX10_enter 8 = .ok (.iload_n 1, 1) := by decide +kernel
theorem dX10_enter_9 : decode cX10_enter 9 = .ok (.iastore, 1) := by decide +kernel
theorem dX10_enter_10 : decode cX10_enter 10 = .ok (.aload_n 0, 1) := by decide +kernel
theorem dX10_enter_11 : decode cX10_enter 11 = .ok (.getfield 130, 3) := by decide +kernel
theorem dX10_enter_14 : decode cX10_enter 14 = .ok (.aload_n 0, 1) := by decide +kernel
theorem dX10_enter_15 : decode cX10_enter 15 = .ok (.getfield 375, 3) := by decide +kernel
theorem dX10_enter_18 : decode cX10_enter 18 = .ok (.aload_n 0, 1) := by decide +kernel
theorem dX10_enter_19 : decode cX10_enter 19 = .ok (.getfield 88, 3) := by decide +kernel
theorem dX10_enter_22 : decode cX10_enter 22 = .ok (.iload_n 1, 1) := by decide +kernel
theorem dX10_enter_23 : decode cX10_enter 23 = .ok (.iaload, 1) := by decide +kernel
theorem dX10_enter_24 : decode cX10_enter 24 = .ok (.iastore, 1) := by decide +kernel
theorem dX10_enter_25 : decode cX10_enter 25 = .ok (.aload_n 0, 1) := by decide +kernel
theorem dX10_enter_26 : decode cX10_enter 26 = .ok (.getfield 133, 3) := by decide +kernel
theorem dX10_enter_29 : decode cX10_enter 29 = .ok (.aload_n 0, 1) := by decide +kernel
theorem dX10_enter_30 : decode cX10_enter 30 = .ok (.getfield 375, 3) := by decide +kernel
theorem dX10_enter_33 : decode cX10_enter 33 = .ok (.iconst (-1), 1) := by decide +kernel
theorem dX10_enter_34 : decode cX10_enter 34 = .ok (.iastore, 1) := by decide +kernel
theorem dX10_enter_35 : decode cX10_enter 35 = .ok (.aload_n 0, 1) := by decide +kernel
theorem dX10_enter_36 : decode cX10_enter 36 = .ok (.getfield 136, 3) := by decide +kernel
theorem dX10_enter_39 : decode cX10_enter 39 = .ok (.aload_n 0, 1) := by decide +kernel
theorem dX10_enter_40 : decode cX10_enter 40 = .ok (.getfield 375, 3) := by decide +kernel
theorem dX10_enter_43 : decode cX10_enter 43 = .ok (.iload_n 2, 1) := by decide +kernel
theorem dX10_enter_44 : decode cX10_enter 44 = .ok (.iastore, 1) := by decide +kernel
theorem dX10_enter_45 : decode cX10_enter 45 = .ok (.aload_n 0, 1) := by decide +kernel
theorem dX10_enter_46 : decode cX10_enter 46 = .ok (.getfield 142, 3) := by decide +kernel
theorem dX10_enter_49 : decode cX10_enter 49 = .ok (.aload_n 0, 1) := by decide +kernel
theorem dX10_enter_50 : decode cX10_enter 50 = .ok (.getfield 375, 3) := by decide +kernel
theorem dX10_enter_53 : decode cX10_enter 53 = .ok (.iconst 0, 1) := by decide +kernel
theorem dX10_enter_54 : decode cX10_enter 54 = .ok (.bastore, 1) := by decide +kernel
theorem dX10_enter_55 : decode cX10_enter 55 = .ok (.aload_n 0, 1) := by decide +kernel
theorem dX10_enter_56 : decode cX10_enter 56 = .ok (.dup, 1) := by decide +kernel
theorem dX10_enter_57 : decode cX10_enter 57 = .ok (.getfield 375, 3) := by decide +kernel
theorem dX10_enter_60 : decode cX10_enter 60 = .ok (.iconst 1, 1) := by decide +kernel
theorem dX10_enter_61 : decode cX10_enter 61 = .ok (.iadd, 1) := by decide +kernel
theorem dX10_enter_62 : decode cX10_enter 62 = .ok (.putfield 375, 3) := by decide +kernel
theorem dX10_enter_65 : decode cX10_enter 65 = .ok (.return_, 1) := by decide +kernel
theorem dX10_finish_15 : decode cX10_finish 15 = .ok (.iload_n 1, 1) := by decide +kernel
theorem dX10_finish_16 : decode cX10_finish 16 = .ok (.aload_n 0, 1) := by decide +kernel
theorem dX10_finish_17 : decode cX10_finish 17 = .ok (.getfield 369, 3) := by decide +kernel
theorem dX10_finish_20 : decode cX10_finish 20 = .ok (.if_icmp .ge 21, 3) := by decide +kernel
theorem dX10_finish_41 : decode cX10_finish 41 = .ok (.aload_n 0, 1) := by decide +kernel
theorem dX10_finish_42 : decode cX10_finish 42 = .ok (.aload_n 0, 1) := by decide +kernel
theorem dX10_finish_43 : decode cX10_finish 43 = .ok (.getfield 369, 3) := by decide +kernel
theorem dX10_finish_46 : decode cX10_finish 46 = .ok (.putfield 378, 3) := by decide +kernel
theorem dX10_finish_49 : decode cX10_finish 49 = .ok (.aload_n 0, 1) := by decide +kernel
theorem dX10_finish_50 : decode cX10_finish 50 = .ok (.getfield 369, 3) := by decide +kernel
theorem dX10_finish_53 : decode cX10_finish 53 = .ok (.ireturn, 1) := by decide +kernel
theorem dX10_finish_23 : decode cX10_finish 23 = .ok (.aload_n 0, 1) := by decide +kernel
theorem dX10_finish_24 : decode cX10_finish 24 = .ok (.getfield 121, 3) := by decide +kernel
theorem dX10_finish_27 : decode cX10_finish 27 = .ok (.iload_n 1, 1) := by decide +kernel
theorem dX10_finish_28 : decode cX10_finish 28 = .ok (.aload_n 0, 1) := by decide +kernel
theorem dX10_finish_29 : decode cX10_finish 29 = .ok (.getfield 124, 3) := by decide +kernel
theorem dX10_finish_32 : decode cX10_finish 32 = .ok (.iload_n 1, 1) := by decide +kernel
theorem dX10_finish_33 : decode cX10_finish 33 = .ok (.baload, 1) := by decide +kernel
theorem dX10_finish_34 : decode cX10_finish 34 = .ok (.bastore, 1) := by decide +kernel
theorem dX10_finish_35 : decode cX10_finish 35 = .ok (.iinc 1 1, 3) := by decide +kernel
theorem dX10_finish_38 : decode cX10_finish 38 = .ok (.goto (-23), 3) := by decide +kernel
theorem dX10_finish_0 : decode cX10_finish 0 = .ok (.aload_n 0, 1) := by decide +kernel
theorem dX10_finish_1 : decode cX10_finish 1 = .ok (.getfield 369, 3) := by decide +kernel
theorem dX10_finish_4 : decode cX10_finish 4 = .ok (.sipush 4000, 3) := by decide +kernel
theorem dX10_finish_7 : decode cX10_finish 7 = .ok (.if_icmp .le 6, 3) := by decide +kernel
theorem dX10_finish_13 : decode cX10_finish 13 = .ok (.iconst 0, 1) := by decide +kernel
theorem dX10_finish_14 : decode cX10_finish 14 = .ok (.istore_n 1, 1) := by decide +kernel
theorem dX10_finish_10 : decode cX10_finish 10 = .ok (.bipush (-4), 2) := by decide +kernel
theorem dX10_finish_12 : decode cX10_finish 12 = .ok (.ireturn, 1) := by decide +kernel
set_option maxHeartbeats 4000000 in
set_option maxRecDepth 100000 in
theorem m_put (l : Launch) (D : va_G) (tA : Nat → ClassId) (b : Nat) (i F : Nat → Nat → Int32) (G : Nat → Nat → Int64) (x : Int32) (hds : 0 ≤ (i 78 56).toInt ∧ (i 78 56).toInt ≤ 2000000000) : xMV l yX10_put cX10_put 2 none 0 0 D tA b 78 52 i F G [.ref (b + 78), .int x] (fun u => RO [56] [115] i F G u ∧ ((i 78 56).toInt ≤ (u.1 78 56).toInt ∧ (u.1 78 56).toInt ≤ (i 78 56).toInt + 1)) := by
  refine xstart RX10 rfl (by decide) (Nat.le_of_ble_eq_true rfl) ?_
  intro p e s m below meth c ls C0 hr hH hS hl
  have hl : lv_has ls 2 [(0, .ref (b + 78)), (1, .int x)] := hl
  have rg_x := fb_rng x
  refine lv_aload_n (pc := 0) C0.1 C0.2.1 dX10_put_0 rfl (lv_at hl 0 rfl) ?_
  refine xget (pc := 1) C0 hH 78 56 clX10 ⟨Nat.le_of_ble_eq_true rfl, Nat.le_of_ble_eq_true rfl⟩ ⟨rfl, rfl⟩ (Nat.le_of_ble_eq_true rfl) fl_X10_369 (v := .int (i 78 56)) rfl dX10_put_1 ?_
  refine lv_sipush (pc := 4) (v := 4000) C0.1 C0.2.1 dX10_put_4 (by decide) ?_
  refine lv_icmp_ge (pc := 7) (tgt := 21) C0.1 C0.2.1 dX10_put_7 (by decide) (fun c1 => ?_) (fun c1 => ?_)
  · have : Int32.toInt 4000 = 4000 := rfl
    have c1 := Int32.le_iff_toInt_le.mp c1
    refine lv_aload_n (pc := 21) C0.1 C0.2.1 dX10_put_21 rfl (lv_at hl 0 rfl) ?_
    refine lv_dup (pc := 22) C0.1 C0.2.1 dX10_put_22 rfl ?_
    refine xget (pc := 23) C0 hH 78 56 clX10 ⟨Nat.le_of_ble_eq_true rfl, Nat.le_of_ble_eq_true rfl⟩ ⟨rfl, rfl⟩ (Nat.le_of_ble_eq_true rfl) fl_X10_369 (v := .int (i 78 56)) rfl dX10_put_23 ?_
    refine lv_iconst (pc := 26) (v := 1) C0.1 C0.2.1 dX10_put_26 (by decide) ?_
    have : Int32.toInt 1 = 1 := rfl
    refine lv_iadd (pc := 27) C0.1 C0.2.1 dX10_put_27 ?_
    refine lv_topi (fun x2 ex2 => ?_)
    have hx2 : Int32.toInt x2 = Int32.toInt (i 78 56) + Int32.toInt 1 := by rw [ex2]; exact fb_addI (by omega) (by omega)
    refine xputI (pc := 28) C0 (Nat.le_of_ble_eq_true rfl) hH hS 78 56 clX10 ⟨Nat.le_of_ble_eq_true rfl, Nat.le_of_ble_eq_true rfl⟩ ⟨rfl, rfl⟩ ⟨Nat.le_of_ble_eq_true rfl, rfl, rfl⟩ fl_X10_369 (x := x2) ⟨rfl, rfl⟩ dX10_put_28 (fun _ locs hH hS _ => ?_)
    have hH : Hd D tA b 78 52 zz (up2 i 78 56 x2) F G _ := hH
    exact xvret (pc := 31) C0 hr hH hS dX10_put_31 ⟨(RO.i RO.rf (by decide)), (show _ ≤ Int32.toInt x2 ∧ Int32.toInt x2 ≤ _ from by omega)⟩
  · have : Int32.toInt 4000 = 4000 := rfl
    have c1 : ¬ _ := fun q => c1 (Int32.le_iff_toInt_le.mpr q)
    refine lv_aload_n (pc := 10) C0.1 C0.2.1 dX10_put_10 rfl (lv_at hl 0 rfl) ?_
    refine xget (pc := 11) C0 hH 78 55 clX10 ⟨Nat.le_of_ble_eq_true rfl, Nat.le_of_ble_eq_true rfl⟩ ⟨rfl, rfl⟩ (Nat.le_of_ble_eq_true rfl) fl_X10_124 (v := .ref (b + 115)) rfl dX10_put_11 ?_
    refine lv_aload_n (pc := 14) C0.1 C0.2.1 dX10_put_14 rfl (lv_at hl 0 rfl) ?_
    refine xget (pc := 15) C0 hH 78 56 clX10 ⟨Nat.le_of_ble_eq_true rfl, Nat.le_of_ble_eq_true rfl⟩ ⟨rfl, rfl⟩ (Nat.le_of_ble_eq_true rfl) fl_X10_369 (v := .int (i 78 56)) rfl dX10_put_15 ?_
    refine lv_iload_n (pc := 18) C0.1 C0.2.1 dX10_put_18 rfl (lv_at hl 1 rfl) ?_
    refine lv_i2b (pc := 19) (v := x.toInt8.toInt32) C0.1 C0.2.1 dX10_put_19 rfl ?_
    refine xbast (pc := 20) (N := 4000) C0 (Nat.le_of_ble_eq_true rfl) hH hS 115 ⟨Nat.le_of_ble_eq_true rfl, Nat.le_of_ble_eq_true rfl⟩ ⟨rfl, rfl⟩ (vI (by omega) (by omega)) dX10_put_20 (fun _ locs hH hS => ?_)
    have hH : Hd D tA b 78 52 zz i (va_up F 115 (upd (F 115) (Int32.toNatClampNeg (i 78 56)) (Int8.toInt32 (Int32.toInt8 x.toInt8.toInt32)))) G _ := hH
    refine lv_aload_n (pc := 21) C0.1 C0.2.1 dX10_put_21 rfl (lv_at hl 0 rfl) ?_
    refine lv_dup (pc := 22) C0.1 C0.2.1 dX10_put_22 rfl ?_
    refine xget (pc := 23) C0 hH 78 56 clX10 ⟨Nat.le_of_ble_eq_true rfl, Nat.le_of_ble_eq_true rfl⟩ ⟨rfl, rfl⟩ (Nat.le_of_ble_eq_true rfl) fl_X10_369 (v := .int (i 78 56)) rfl dX10_put_23 ?_
    refine lv_iconst (pc := 26) (v := 1) C0.1 C0.2.1 dX10_put_26 (by decide) ?_
    have : Int32.toInt 1 = 1 := rfl
    refine lv_iadd (pc := 27) C0.1 C0.2.1 dX10_put_27 ?_
    refine lv_topi (fun x3 ex3 => ?_)
    have hx3 : Int32.toInt x3 = Int32.toInt (i 78 56) + Int32.toInt 1 := by rw [ex3]; exact fb_addI (by omega) (by omega)
    refine xputI (pc := 28) C0 (Nat.le_of_ble_eq_true rfl) hH hS 78 56 clX10 ⟨Nat.le_of_ble_eq_true rfl, Nat.le_of_ble_eq_true rfl⟩ ⟨rfl, rfl⟩ ⟨Nat.le_of_ble_eq_true rfl, rfl, rfl⟩ fl_X10_369 (x := x3) ⟨rfl, rfl⟩ dX10_put_28 (fun _ locs hH hS _ => ?_)
    have hH : Hd D tA b 78 52 zz (up2 i 78 56 x3) (va_up F 115 (upd (F 115) (Int32.toNatClampNeg (i 78 56)) (Int8.toInt32 (Int32.toInt8 x.toInt8.toInt32)))) G _ := hH
    exact xvret (pc := 31) C0 hr hH hS dX10_put_31 ⟨(RO.f (RO.i RO.rf (by decide)) (by decide)), (show _ ≤ Int32.toInt x3 ∧ Int32.toInt x3 ≤ _ from by omega)⟩
set_option maxHeartbeats 4000000 in
set_option maxRecDepth 100000 in
theorem m_blank (l : Launch) (D : va_G) (tA : Nat → ClassId) (b : Nat) (i F : Nat → Nat → Int32) (G : Nat → Nat → Int64)  (hds : 0 ≤ (i 78 56).toInt ∧ (i 78 56).toInt ≤ 2000000000) : xMV l yX10_blank cX10_blank 1 none 1 21 D tA b 78 52 i F G [.ref (b + 78)] (fun u => RO [56] [115] i F G u ∧ ((i 78 56).toInt ≤ (u.1 78 56).toInt ∧ (u.1 78 56).toInt ≤ (i 78 56).toInt + 1)) := by
  refine xstart RX10 rfl (by decide) (Nat.le_of_ble_eq_true rfl) ?_
  intro p e s m below meth c ls C0 hr hH hS hl
  have hl : lv_has ls 1 [(0, .ref (b + 78))] := hl
  refine lv_aload_n (pc := 0) C0.1 C0.2.1 dX10_blank_0 rfl (lv_at hl 0 rfl) ?_
  refine xget (pc := 1) C0 hH 78 56 clX10 ⟨Nat.le_of_ble_eq_true rfl, Nat.le_of_ble_eq_true rfl⟩ ⟨rfl, rfl⟩ (Nat.le_of_ble_eq_true rfl) fl_X10_369 (v := .int (i 78 56)) rfl dX10_blank_1 ?_
  refine lv_if_le (pc := 4) (tgt := 13) C0.1 C0.2.1 dX10_blank_4 (by decide) (fun c1 => ?_) (fun c1 => ?_)
  · have : Int32.toInt 0 = 0 := rfl
    have c1 := Int32.le_iff_toInt_le.mp c1
    exact xvret (pc := 13) C0 hr hH hS dX10_blank_13 ⟨RO.rf, (show _ ≤ Int32.toInt (i 78 56) ∧ Int32.toInt (i 78 56) ≤ _ from by omega)⟩
  · have : Int32.toInt 0 = 0 := rfl
    have c1 : ¬ _ := fun q => c1 (Int32.le_iff_toInt_le.mpr q)
    refine lv_aload_n (pc := 7) C0.1 C0.2.1 dX10_blank_7 rfl (lv_at hl 0 rfl) ?_
    refine lv_bipush (pc := 8) (v := 32) C0.1 C0.2.1 dX10_blank_8 (by decide) ?_
    refine xcVV (pc := 10) 78 [.int 32] (m_put l D tA b i F G 32 (show 0 ≤ Int32.toInt (i 78 56) ∧ Int32.toInt (i 78 56) ≤ 2000000000 from by omega) ) C0 hH hS clX10 rfl ⟨⟨Nat.le_of_ble_eq_true rfl, Nat.le_of_ble_eq_true rfl⟩, rfl, rfl⟩ cw_X10_372 rfl ⟨Nat.le_of_ble_eq_true rfl, Nat.le_of_ble_eq_true rfl⟩ hl.1 rfl (Nat.le_of_ble_eq_true rfl) dX10_blank_10 ⟨Nat.le_of_ble_eq_true rfl, Nat.le_of_ble_eq_true rfl⟩ (fun ir2 Fr2 Gr2 _ locs hp hH hS => ?_)
    obtain ⟨honr2, hdsr2⟩ := hp
    have hdsr2 : Int32.toInt (i 78 56) ≤ (ir2 78 56).toInt ∧ (ir2 78 56).toInt ≤ Int32.toInt (i 78 56) + 1 := hdsr2
    exact xvret (pc := 13) C0 hr hH hS dX10_blank_13 ⟨(RO.tr RO.rf honr2 (by decide) (by decide)), (show _ ≤ Int32.toInt (ir2 78 56) ∧ Int32.toInt (ir2 78 56) ≤ _ from by omega)⟩
set_option maxHeartbeats 4000000 in
set_option maxRecDepth 100000 in
theorem m_sign (l : Launch) (D : va_G) (tA : Nat → ClassId) (b : Nat) (i F : Nat → Nat → Int32) (G : Nat → Nat → Int64) (x : Int32) (hds : 0 ≤ (i 78 56).toInt ∧ (i 78 56).toInt ≤ 1900000000) : xMV l yX10_sign cX10_sign 2 none 2 41 D tA b 78 52 i F G [.ref (b + 78), .int x] (fun u => RO [56] [115] i F G u ∧ ((i 78 56).toInt ≤ (u.1 78 56).toInt ∧ (u.1 78 56).toInt ≤ (i 78 56).toInt + 2)) := by
  refine xstart RX10 rfl (by decide) (Nat.le_of_ble_eq_true rfl) ?_
  intro p e s m below meth c ls C0 hr hH hS hl
  have hl : lv_has ls 2 [(0, .ref (b + 78)), (1, .int x)] := hl
  have rg_x := fb_rng x
  refine lv_aload_n (pc := 0) C0.1 C0.2.1 dX10_sign_0 rfl (lv_at hl 0 rfl) ?_
  refine xcVV (pc := 1) 78 [] (m_blank l D tA b i F G  (show 0 ≤ Int32.toInt (i 78 56) ∧ Int32.toInt (i 78 56) ≤ 2000000000 from by omega) ) C0 hH hS clX10 rfl ⟨⟨Nat.le_of_ble_eq_true rfl, Nat.le_of_ble_eq_true rfl⟩, rfl, rfl⟩ cw_X10_381 rfl ⟨Nat.le_of_ble_eq_true rfl, Nat.le_of_ble_eq_true rfl⟩ hl.1 rfl (Nat.le_of_ble_eq_true rfl) dX10_sign_1 ⟨Nat.le_of_ble_eq_true rfl, Nat.le_of_ble_eq_true rfl⟩ (fun ir1 Fr1 Gr1 _ locs hp hH hS => ?_)
  obtain ⟨honr1, hdsr1⟩ := hp
  have hdsr1 : Int32.toInt (i 78 56) ≤ (ir1 78 56).toInt ∧ (ir1 78 56).toInt ≤ Int32.toInt (i 78 56) + 1 := hdsr1
  refine lv_aload_n (pc := 4) C0.1 C0.2.1 dX10_sign_4 rfl (lv_at hl 0 rfl) ?_
  refine lv_iload_n (pc := 5) C0.1 C0.2.1 dX10_sign_5 rfl (lv_at hl 1 rfl) ?_
  refine xcVV (pc := 6) 78 [.int x] (m_put l D tA b ir1 Fr1 Gr1 x (show 0 ≤ Int32.toInt (ir1 78 56) ∧ Int32.toInt (ir1 78 56) ≤ 2000000000 from by omega) ) C0 hH hS clX10 rfl ⟨⟨Nat.le_of_ble_eq_true rfl, Nat.le_of_ble_eq_true rfl⟩, rfl, rfl⟩ cw_X10_372 rfl ⟨Nat.le_of_ble_eq_true rfl, Nat.le_of_ble_eq_true rfl⟩ hl.1 rfl (Nat.le_of_ble_eq_true rfl) dX10_sign_6 ⟨Nat.le_of_ble_eq_true rfl, Nat.le_of_ble_eq_true rfl⟩ (fun ir2 Fr2 Gr2 _ locs hp hH hS => ?_)
  obtain ⟨honr2, hdsr2⟩ := hp
  have hdsr2 : Int32.toInt (ir1 78 56) ≤ (ir2 78 56).toInt ∧ (ir2 78 56).toInt ≤ Int32.toInt (ir1 78 56) + 1 := hdsr2
  exact xvret (pc := 9) C0 hr hH hS dX10_sign_9 ⟨(RO.tr (RO.tr RO.rf honr1 (by decide) (by decide)) honr2 (by decide) (by decide)), (show _ ≤ Int32.toInt (ir2 78 56) ∧ Int32.toInt (ir2 78 56) ≤ _ from by omega)⟩
set_option maxHeartbeats 4000000 in
set_option maxRecDepth 100000 in
theorem m_putToken (l : Launch) (D : va_G) (tA : Nat → ClassId) (b : Nat) (i F : Nat → Nat → Int32) (G : Nat → Nat → Int64) (x : Int32) (hds : 0 ≤ (i 78 56).toInt ∧ (i 78 56).toInt ≤ 1900000000) (hi_78_17 : i 78 17 = nI 85) (hTA : TA (F 89) (F 90)) (hx : 0 ≤ x.toInt ∧ x.toInt < 600) : xMV l yX10_putToken cX10_putToken 3 none 1 21 D tA b 78 52 i F G [.ref (b + 78), .int x] (fun u => RO [56] [115] i F G u ∧ ((i 78 56).toInt ≤ (u.1 78 56).toInt ∧ (u.1 78 56).toInt ≤ (i 78 56).toInt + 600)) := by
  refine xstart RX10 rfl (by decide) (Nat.le_of_ble_eq_true rfl) ?_
  intro p e s m below meth c ls C0 hr hH hS hl
  have hl : lv_has ls 3 [(0, .ref (b + 78)), (1, .int x)] := hl
  have rg_x := fb_rng x
  have hat0 := hTA (Int32.toNatClampNeg x)
  have L2 : ∀ (d : Nat) (k : Int32) (iv Fv : Nat → Nat → Int32) (Gv : Nat → Nat → Int64) (H : Heap) (locs : List Loc) (ls : Array Slot), (0 ≤ k.toInt ∧ k.toInt ≤ (F 90 (Int32.toNatClampNeg x)).toInt) → ((F 90 (Int32.toNatClampNeg x)).toInt - k.toInt ≤ d) → (RO [56] [115] i F G (iv, Fv, Gv)) → ((i 78 56).toInt ≤ (iv 78 56).toInt ∧ (iv 78 56).toInt ≤ (i 78 56).toInt + k.toInt) → Hd D tA b 78 52 zz iv Fv Gv H → va_S (xA b 78 52) s.heap H locs → lv_has ls 3 [(2, .int k), (0, .ref (b + 78)), (1, .int x)] → W p l e (xR 1 21) s m ([.ref (b + 78), .int x] : List Value).toArray below meth c H locs 0 0 (MQ below (va_Qv (fun u => RO [56] [115] i F G u ∧ ((i 78 56).toInt ≤ (u.1 78 56).toInt ∧ (u.1 78 56).toInt ≤ (i 78 56).toInt + 600)) (xB D tA b 78 52 zz) (xA b 78 52)) ([.ref (b + 78), .int x] : List Value).toArray s 0 0 (xA b 78 52)) (F0 m 2 ls []) := by
    intro d
    induction d with
    | zero =>
      intro k iv Fv Gv H locs ls h1 h2 h3 h4 hH hS hl
      have rg_k := fb_rng k
      have hi_78_17 : iv 78 17 = nI 85 := (h3.1 78 17 (Or.inr (by decide))).trans hi_78_17
      have hTA : TA (Fv 89) (Fv 90) := by rw [show Fv 89 = F 89 from (h3.2 89 (by decide)).1, show Fv 90 = F 90 from (h3.2 90 (by decide)).1]; exact hTA
      have hat := hTA (Int32.toNatClampNeg x)
      have e90 : Int32.toInt (Fv 90 (Int32.toNatClampNeg x)) = Int32.toInt (F 90 (Int32.toNatClampNeg x)) := by rw [show Fv 90 = F 90 from (h3.2 90 (by decide)).1]
      refine lv_iload_n (pc := 2) C0.1 C0.2.1 dX10_putToken_2 rfl (lv_at hl 0 rfl) ?_
      refine lv_aload_n (pc := 3) C0.1 C0.2.1 dX10_putToken_3 rfl (lv_at hl 1 rfl) ?_
      refine xget (pc := 4) C0 hH 78 22 clX10 ⟨Nat.le_of_ble_eq_true rfl, Nat.le_of_ble_eq_true rfl⟩ ⟨rfl, rfl⟩ (Nat.le_of_ble_eq_true rfl) fl_X10_48 (v := .ref (b + 90)) rfl dX10_putToken_4 ?_
      refine lv_iload_n (pc := 7) C0.1 C0.2.1 dX10_putToken_7 rfl (lv_at hl 2 rfl) ?_
      refine xiald (pc := 8) (N := 600) C0 hH 90 ⟨Nat.le_of_ble_eq_true rfl, Nat.le_of_ble_eq_true rfl⟩ ⟨rfl, rfl⟩ (vI (by omega) (by omega)) dX10_putToken_8 ?_
      refine lv_icmp_ge (pc := 9) (tgt := 35) C0.1 C0.2.1 dX10_putToken_9 (by decide) (fun _ => ?_) (fun c => absurd (Int32.le_iff_toInt_le.mpr (by omega)) c)
      exact xvret (pc := 35) C0 hr hH hS dX10_putToken_35 ⟨h3, (show _ ≤ Int32.toInt (iv 78 56) ∧ Int32.toInt (iv 78 56) ≤ _ from by omega)⟩
    | succ d ih2 =>
      intro k iv Fv Gv H locs ls h1 h2 h3 h4 hH hS hl
      have rg_k := fb_rng k
      have hi_78_17 : iv 78 17 = nI 85 := (h3.1 78 17 (Or.inr (by decide))).trans hi_78_17
      have hTA : TA (Fv 89) (Fv 90) := by rw [show Fv 89 = F 89 from (h3.2 89 (by decide)).1, show Fv 90 = F 90 from (h3.2 90 (by decide)).1]; exact hTA
      have hat := hTA (Int32.toNatClampNeg x)
      have e90 : Int32.toInt (Fv 90 (Int32.toNatClampNeg x)) = Int32.toInt (F 90 (Int32.toNatClampNeg x)) := by rw [show Fv 90 = F 90 from (h3.2 90 (by decide)).1]
      refine lv_iload_n (pc := 2) C0.1 C0.2.1 dX10_putToken_2 rfl (lv_at hl 0 rfl) ?_
      refine lv_aload_n (pc := 3) C0.1 C0.2.1 dX10_putToken_3 rfl (lv_at hl 1 rfl) ?_
      refine xget (pc := 4) C0 hH 78 22 clX10 ⟨Nat.le_of_ble_eq_true rfl, Nat.le_of_ble_eq_true rfl⟩ ⟨rfl, rfl⟩ (Nat.le_of_ble_eq_true rfl) fl_X10_48 (v := .ref (b + 90)) rfl dX10_putToken_4 ?_
      refine lv_iload_n (pc := 7) C0.1 C0.2.1 dX10_putToken_7 rfl (lv_at hl 2 rfl) ?_
      refine xiald (pc := 8) (N := 600) C0 hH 90 ⟨Nat.le_of_ble_eq_true rfl, Nat.le_of_ble_eq_true rfl⟩ ⟨rfl, rfl⟩ (vI (by omega) (by omega)) dX10_putToken_8 ?_
      refine lv_icmp_ge (pc := 9) (tgt := 35) C0.1 C0.2.1 dX10_putToken_9 (by decide) (fun c201 => ?_) (fun c201 => ?_)
      · have c201 := Int32.le_iff_toInt_le.mp c201
        exact xvret (pc := 35) C0 hr hH hS dX10_putToken_35 ⟨h3, (show _ ≤ Int32.toInt (iv 78 56) ∧ Int32.toInt (iv 78 56) ≤ _ from by omega)⟩
      · have c201 : ¬ _ := fun q => c201 (Int32.le_iff_toInt_le.mpr q)
        refine lv_aload_n (pc := 12) C0.1 C0.2.1 dX10_putToken_12 rfl (lv_at hl 1 rfl) ?_
        refine lv_aload_n (pc := 13) C0.1 C0.2.1 dX10_putToken_13 rfl (lv_at hl 1 rfl) ?_
        refine xget (pc := 14) C0 hH 78 17 clX10 ⟨Nat.le_of_ble_eq_true rfl, Nat.le_of_ble_eq_true rfl⟩ ⟨rfl, rfl⟩ (Nat.le_of_ble_eq_true rfl) fl_X10_39 (v := .ref (b + 85)) (by show Value.ref (b + (iv 78 17).toNatClampNeg) = _; rw [hi_78_17]; rfl) dX10_putToken_14 ?_
        refine lv_aload_n (pc := 17) C0.1 C0.2.1 dX10_putToken_17 rfl (lv_at hl 1 rfl) ?_
        refine xget (pc := 18) C0 hH 78 21 clX10 ⟨Nat.le_of_ble_eq_true rfl, Nat.le_of_ble_eq_true rfl⟩ ⟨rfl, rfl⟩ (Nat.le_of_ble_eq_true rfl) fl_X10_45 (v := .ref (b + 89)) rfl dX10_putToken_18 ?_
        refine lv_iload_n (pc := 21) C0.1 C0.2.1 dX10_putToken_21 rfl (lv_at hl 2 rfl) ?_
        refine xiald (pc := 22) (N := 600) C0 hH 89 ⟨Nat.le_of_ble_eq_true rfl, Nat.le_of_ble_eq_true rfl⟩ ⟨rfl, rfl⟩ (vI (by omega) (by omega)) dX10_putToken_22 ?_
        refine lv_iload_n (pc := 23) C0.1 C0.2.1 dX10_putToken_23 rfl (lv_at hl 0 rfl) ?_
        refine lv_iadd (pc := 24) C0.1 C0.2.1 dX10_putToken_24 ?_
        refine lv_topi (fun x202 ex202 => ?_)
        have hx202 : Int32.toInt x202 = Int32.toInt (Fv 89 (Int32.toNatClampNeg x)) + Int32.toInt k := by rw [ex202]; exact fb_addI (by omega) (by omega)
        refine xbald (pc := 25) (N := 600) C0 hH 85 ⟨Nat.le_of_ble_eq_true rfl, Nat.le_of_ble_eq_true rfl⟩ ⟨rfl, rfl⟩ (vI (by omega) (by omega)) dX10_putToken_25 ?_
        refine xcVV (pc := 26) 78 [.int (Fv 85 (Int32.toNatClampNeg x202))] (m_put l D tA b iv Fv Gv (Fv 85 (Int32.toNatClampNeg x202)) (show 0 ≤ Int32.toInt (iv 78 56) ∧ Int32.toInt (iv 78 56) ≤ 2000000000 from by omega) ) C0 hH hS clX10 rfl ⟨⟨Nat.le_of_ble_eq_true rfl, Nat.le_of_ble_eq_true rfl⟩, rfl, rfl⟩ cw_X10_372 rfl ⟨Nat.le_of_ble_eq_true rfl, Nat.le_of_ble_eq_true rfl⟩ hl.1 rfl (Nat.le_of_ble_eq_true rfl) dX10_putToken_26 ⟨Nat.le_of_ble_eq_true rfl, Nat.le_of_ble_eq_true rfl⟩ (fun ir203 Fr203 Gr203 _ locs hp hH hS => ?_)
        obtain ⟨honr203, hdsr203⟩ := hp
        have hdsr203 : Int32.toInt (iv 78 56) ≤ (ir203 78 56).toInt ∧ (ir203 78 56).toInt ≤ Int32.toInt (iv 78 56) + 1 := hdsr203
        have hi_78_17 : ir203 78 17 = nI 85 := (honr203.1 78 17 (Or.inr (by decide))).trans hi_78_17
        obtain ⟨x204, ex204⟩ : ∃ y_ : Int32, y_ = k + 1 := ⟨_, rfl⟩
        have : Int32.toInt 1 = 1 := rfl
        have hx204 : Int32.toInt x204 = Int32.toInt k + Int32.toInt 1 := by rw [ex204]; exact fb_addI (by omega) (by omega)
        refine lv_iinc (pc := 29) (v := x204) (lv' := [(2, .int x204), (0, .ref (b + 78)), (1, .int x)]) C0.1 C0.2.1 dX10_putToken_29 hl (k := 0) rfl (by rw [ex204]; rfl) (by decide) rfl (fun ls hl => ?_)
        refine lv_goto (pc := 32) (tgt := 2) C0.1 C0.2.1 dX10_putToken_32 (by decide) ?_
        exact ih2 x204 ir203 Fr203 Gr203 _ _ _ (by omega) (by omega) (RO.tr h3 honr203 (by decide) (by decide)) (by omega) hH hS (lv_sub hl [0, 1, 2] rfl)
  refine lv_iconst (pc := 0) (v := 0) C0.1 C0.2.1 dX10_putToken_0 (by decide) ?_
  refine lv_istore_n (pc := 1) (lv' := [(2, .int 0), (0, .ref (b + 78)), (1, .int x)]) C0.1 C0.2.1 dX10_putToken_1 rfl hl (by decide) rfl (fun ls hl => ?_)
  exact L2 600 0 i F G _ _ _ (by have : Int32.toInt 0 = 0 := rfl; omega) (by have : Int32.toInt 0 = 0 := rfl; omega) RO.rf (by have : Int32.toInt 0 = 0 := rfl; omega) hH hS (lv_sub hl [0, 1, 2] rfl)
set_option maxHeartbeats 4000000 in
set_option maxRecDepth 100000 in
theorem m_isStanding (l : Launch) (D : va_G) (tA : Nat → ClassId) (b : Nat) (i F : Nat → Nat → Int32) (G : Nat → Nat → Int64) (x : Int32) (hx : 0 ≤ x.toInt ∧ x.toInt < 1202) : xMI l yX10_isStanding cX10_isStanding 2 (some .boolean) 0 0 D tA b 78 52 i F G [.ref (b + 78), .int x] (fun r u => u = (i, F, G) ∧ (r.toInt = 0 ∨ r.toInt = 1)) := by
  refine xstart RX10 rfl (by decide) (Nat.le_of_ble_eq_true rfl) ?_
  intro p e s m below meth c ls C0 hr hH hS hl
  have hl : lv_has ls 2 [(0, .ref (b + 78)), (1, .int x)] := hl
  have rg_x := fb_rng x
  refine lv_aload_n (pc := 0) C0.1 C0.2.1 dX10_isStanding_0 rfl (lv_at hl 0 rfl) ?_
  refine xget (pc := 1) C0 hH 78 33 clX10 ⟨Nat.le_of_ble_eq_true rfl, Nat.le_of_ble_eq_true rfl⟩ ⟨rfl, rfl⟩ (Nat.le_of_ble_eq_true rfl) fl_X10_73 (v := .ref (b + 98)) rfl dX10_isStanding_1 ?_
  refine lv_iload_n (pc := 4) C0.1 C0.2.1 dX10_isStanding_4 rfl (lv_at hl 1 rfl) ?_
  refine xiald (pc := 5) (N := 1202) C0 hH 98 ⟨Nat.le_of_ble_eq_true rfl, Nat.le_of_ble_eq_true rfl⟩ ⟨rfl, rfl⟩ (vI (by omega) (by omega)) dX10_isStanding_5 ?_
  refine lv_if_eq (pc := 6) (tgt := 23) C0.1 C0.2.1 dX10_isStanding_6 (by decide) (fun c1 => ?_) (fun c1 => ?_)
  · have : Int32.toInt 0 = 0 := rfl
    have c1 := congrArg Int32.toInt c1
    refine lv_iconst (pc := 23) (v := 0) C0.1 C0.2.1 dX10_isStanding_23 (by decide) ?_
    exact xzret (pc := 24) C0 hr hH hS dX10_isStanding_24 (by decide) ⟨rfl, by decide⟩
  · have : Int32.toInt 0 = 0 := rfl
    have c1 : ¬ _ := fun q => c1 (Int32.toInt_inj.mp q)
    refine lv_aload_n (pc := 9) C0.1 C0.2.1 dX10_isStanding_9 rfl (lv_at hl 0 rfl) ?_
    refine xget (pc := 10) C0 hH 78 33 clX10 ⟨Nat.le_of_ble_eq_true rfl, Nat.le_of_ble_eq_true rfl⟩ ⟨rfl, rfl⟩ (Nat.le_of_ble_eq_true rfl) fl_X10_73 (v := .ref (b + 98)) rfl dX10_isStanding_10 ?_
    refine lv_iload_n (pc := 13) C0.1 C0.2.1 dX10_isStanding_13 rfl (lv_at hl 1 rfl) ?_
    refine xiald (pc := 14) (N := 1202) C0 hH 98 ⟨Nat.le_of_ble_eq_true rfl, Nat.le_of_ble_eq_true rfl⟩ ⟨rfl, rfl⟩ (vI (by omega) (by omega)) dX10_isStanding_14 ?_
    refine lv_iconst (pc := 15) (v := 4) C0.1 C0.2.1 dX10_isStanding_15 (by decide) ?_
    refine lv_icmp_eq (pc := 16) (tgt := 23) C0.1 C0.2.1 dX10_isStanding_16 (by decide) (fun c2 => ?_) (fun c2 => ?_)
    · have : Int32.toInt 4 = 4 := rfl
      have c2 := congrArg Int32.toInt c2
      refine lv_iconst (pc := 23) (v := 0) C0.1 C0.2.1 dX10_isStanding_23 (by decide) ?_
      exact xzret (pc := 24) C0 hr hH hS dX10_isStanding_24 (by decide) ⟨rfl, by decide⟩
    · have : Int32.toInt 4 = 4 := rfl
      have c2 : ¬ _ := fun q => c2 (Int32.toInt_inj.mp q)
      refine lv_iconst (pc := 19) (v := 1) C0.1 C0.2.1 dX10_isStanding_19 (by decide) ?_
      refine lv_goto (pc := 20) (tgt := 24) C0.1 C0.2.1 dX10_isStanding_20 (by decide) ?_
      exact xzret (pc := 24) C0 hr hH hS dX10_isStanding_24 (by decide) ⟨rfl, by decide⟩
set_option maxHeartbeats 4000000 in
set_option maxRecDepth 100000 in
theorem m_enter (l : Launch) (D : va_G) (tA : Nat → ClassId) (b : Nat) (i F : Nat → Nat → Int32) (G : Nat → Nat → Int64) (x y : Int32) (hx : 0 ≤ x.toInt ∧ x.toInt < 1202) (hd : 0 ≤ (i 78 63).toInt ∧ (i 78 63).toInt < 1202) : xMV l yX10_enter cX10_enter 3 none 0 0 D tA b 78 52 i F G [.ref (b + 78), .int x, .int y] (fun u => RO [63] [116, 117, 118, 119, 121] i F G u ∧ (u.1 78 63).toInt = (i 78 63).toInt + 1 ∧ u.2.1 116 = upd (F 116) (Int32.toNatClampNeg (i 78 63)) x ∧ u.2.1 117 = upd (F 117) (Int32.toNatClampNeg (i 78 63)) (F 103 (Int32.toNatClampNeg x)) ∧ u.2.1 118 = upd (F 118) (Int32.toNatClampNeg (i 78 63)) (-1) ∧ u.2.1 119 = upd (F 119) (Int32.toNatClampNeg (i 78 63)) y) := by
  refine xstart RX10 rfl (by decide) (Nat.le_of_ble_eq_true rfl) ?_
  intro p e s m below meth c ls C0 hr hH hS hl
  have hl : lv_has ls 3 [(0, .ref (b + 78)), (1, .int x), (2, .int y)] := hl
  have rg_x := fb_rng x
  have rg_y := fb_rng y
  refine lv_aload_n (pc := 0) C0.1 C0.2.1 dX10_enter_0 rfl (lv_at hl 0 rfl) ?_
  refine xget (pc := 1) C0 hH 78 57 clX10 ⟨Nat.le_of_ble_eq_true rfl, Nat.le_of_ble_eq_true rfl⟩ ⟨rfl, rfl⟩ (Nat.le_of_ble_eq_true rfl) fl_X10_127 (v := .ref (b + 116)) rfl dX10_enter_1 ?_
  refine lv_aload_n (pc := 4) C0.1 C0.2.1 dX10_enter_4 rfl (lv_at hl 0 rfl) ?_
  refine xget (pc := 5) C0 hH 78 63 clX10 ⟨Nat.le_of_ble_eq_true rfl, Nat.le_of_ble_eq_true rfl⟩ ⟨rfl, rfl⟩ (Nat.le_of_ble_eq_true rfl) fl_X10_375 (v := .int (i 78 63)) rfl dX10_enter_5 ?_
  refine lv_iload_n (pc := 8) C0.1 C0.2.1 dX10_enter_8 rfl (lv_at hl 1 rfl) ?_
  refine xiast (pc := 9) (N := 1202) C0 (Nat.le_of_ble_eq_true rfl) hH hS 116 ⟨Nat.le_of_ble_eq_true rfl, Nat.le_of_ble_eq_true rfl⟩ ⟨rfl, rfl⟩ (vI (by omega) (by omega)) dX10_enter_9 (fun _ locs hH hS _ => ?_)
  have hH : Hd D tA b 78 52 zz i (va_up F 116 (upd (F 116) (Int32.toNatClampNeg (i 78 63)) x)) G _ := hH
  refine lv_aload_n (pc := 10) C0.1 C0.2.1 dX10_enter_10 rfl (lv_at hl 0 rfl) ?_
  refine xget (pc := 11) C0 hH 78 58 clX10 ⟨Nat.le_of_ble_eq_true rfl, Nat.le_of_ble_eq_true rfl⟩ ⟨rfl, rfl⟩ (Nat.le_of_ble_eq_true rfl) fl_X10_130 (v := .ref (b + 117)) rfl dX10_enter_11 ?_
  refine lv_aload_n (pc := 14) C0.1 C0.2.1 dX10_enter_14 rfl (lv_at hl 0 rfl) ?_
  refine xget (pc := 15) C0 hH 78 63 clX10 ⟨Nat.le_of_ble_eq_true rfl, Nat.le_of_ble_eq_true rfl⟩ ⟨rfl, rfl⟩ (Nat.le_of_ble_eq_true rfl) fl_X10_375 (v := .int (i 78 63)) rfl dX10_enter_15 ?_
  refine lv_aload_n (pc := 18) C0.1 C0.2.1 dX10_enter_18 rfl (lv_at hl 0 rfl) ?_
  refine xget (pc := 19) C0 hH 78 38 clX10 ⟨Nat.le_of_ble_eq_true rfl, Nat.le_of_ble_eq_true rfl⟩ ⟨rfl, rfl⟩ (Nat.le_of_ble_eq_true rfl) fl_X10_88 (v := .ref (b + 103)) rfl dX10_enter_19 ?_
  refine lv_iload_n (pc := 22) C0.1 C0.2.1 dX10_enter_22 rfl (lv_at hl 1 rfl) ?_
  refine xiald (pc := 23) (N := 1202) C0 hH 103 ⟨Nat.le_of_ble_eq_true rfl, Nat.le_of_ble_eq_true rfl⟩ ⟨rfl, rfl⟩ (vI (by omega) (by omega)) dX10_enter_23 ?_
  refine lv_topi (fun q1 eq1 => ?_)
  obtain rfl : q1 = F 103 (Int32.toNatClampNeg x) := eq1.trans rfl
  refine xiast (pc := 24) (N := 1202) C0 (Nat.le_of_ble_eq_true rfl) hH hS 117 ⟨Nat.le_of_ble_eq_true rfl, Nat.le_of_ble_eq_true rfl⟩ ⟨rfl, rfl⟩ (vI (by omega) (by omega)) dX10_enter_24 (fun _ locs hH hS _ => ?_)
  have hH : Hd D tA b 78 52 zz i (va_up (va_up F 116 (upd (F 116) (Int32.toNatClampNeg (i 78 63)) x)) 117 (upd (F 117) (Int32.toNatClampNeg (i 78 63)) (F 103 (Int32.toNatClampNeg x)))) G _ := hH
  refine lv_aload_n (pc := 25) C0.1 C0.2.1 dX10_enter_25 rfl (lv_at hl 0 rfl) ?_
  refine xget (pc := 26) C0 hH 78 59 clX10 ⟨Nat.le_of_ble_eq_true rfl, Nat.le_of_ble_eq_true rfl⟩ ⟨rfl, rfl⟩ (Nat.le_of_ble_eq_true rfl) fl_X10_133 (v := .ref (b + 118)) rfl dX10_enter_26 ?_
  refine lv_aload_n (pc := 29) C0.1 C0.2.1 dX10_enter_29 rfl (lv_at hl 0 rfl) ?_
  refine xget (pc := 30) C0 hH 78 63 clX10 ⟨Nat.le_of_ble_eq_true rfl, Nat.le_of_ble_eq_true rfl⟩ ⟨rfl, rfl⟩ (Nat.le_of_ble_eq_true rfl) fl_X10_375 (v := .int (i 78 63)) rfl dX10_enter_30 ?_
  refine lv_iconst (pc := 33) (v := (-1)) C0.1 C0.2.1 dX10_enter_33 (by decide) ?_
  refine xiast (pc := 34) (N := 1202) C0 (Nat.le_of_ble_eq_true rfl) hH hS 118 ⟨Nat.le_of_ble_eq_true rfl, Nat.le_of_ble_eq_true rfl⟩ ⟨rfl, rfl⟩ (vI (by omega) (by omega)) dX10_enter_34 (fun _ locs hH hS _ => ?_)
  have hH : Hd D tA b 78 52 zz i (va_up (va_up (va_up F 116 (upd (F 116) (Int32.toNatClampNeg (i 78 63)) x)) 117 (upd (F 117) (Int32.toNatClampNeg (i 78 63)) (F 103 (Int32.toNatClampNeg x)))) 118 (upd (F 118) (Int32.toNatClampNeg (i 78 63)) (-1))) G _ := hH
  refine lv_aload_n (pc := 35) C0.1 C0.2.1 dX10_enter_35 rfl (lv_at hl 0 rfl) ?_
  refine xget (pc := 36) C0 hH 78 60 clX10 ⟨Nat.le_of_ble_eq_true rfl, Nat.le_of_ble_eq_true rfl⟩ ⟨rfl, rfl⟩ (Nat.le_of_ble_eq_true rfl) fl_X10_136 (v := .ref (b + 119)) rfl dX10_enter_36 ?_
  refine lv_aload_n (pc := 39) C0.1 C0.2.1 dX10_enter_39 rfl (lv_at hl 0 rfl) ?_
  refine xget (pc := 40) C0 hH 78 63 clX10 ⟨Nat.le_of_ble_eq_true rfl, Nat.le_of_ble_eq_true rfl⟩ ⟨rfl, rfl⟩ (Nat.le_of_ble_eq_true rfl) fl_X10_375 (v := .int (i 78 63)) rfl dX10_enter_40 ?_
  refine lv_iload_n (pc := 43) C0.1 C0.2.1 dX10_enter_43 rfl (lv_at hl 2 rfl) ?_
  refine xiast (pc := 44) (N := 1202) C0 (Nat.le_of_ble_eq_true rfl) hH hS 119 ⟨Nat.le_of_ble_eq_true rfl, Nat.le_of_ble_eq_true rfl⟩ ⟨rfl, rfl⟩ (vI (by omega) (by omega)) dX10_enter_44 (fun _ locs hH hS _ => ?_)
  have hH : Hd D tA b 78 52 zz i (va_up (va_up (va_up (va_up F 116 (upd (F 116) (Int32.toNatClampNeg (i 78 63)) x)) 117 (upd (F 117) (Int32.toNatClampNeg (i 78 63)) (F 103 (Int32.toNatClampNeg x)))) 118 (upd (F 118) (Int32.toNatClampNeg (i 78 63)) (-1))) 119 (upd (F 119) (Int32.toNatClampNeg (i 78 63)) y)) G _ := hH
  refine lv_aload_n (pc := 45) C0.1 C0.2.1 dX10_enter_45 rfl (lv_at hl 0 rfl) ?_
  refine xget (pc := 46) C0 hH 78 62 clX10 ⟨Nat.le_of_ble_eq_true rfl, Nat.le_of_ble_eq_true rfl⟩ ⟨rfl, rfl⟩ (Nat.le_of_ble_eq_true rfl) fl_X10_142 (v := .ref (b + 121)) rfl dX10_enter_46 ?_
  refine lv_aload_n (pc := 49) C0.1 C0.2.1 dX10_enter_49 rfl (lv_at hl 0 rfl) ?_
  refine xget (pc := 50) C0 hH 78 63 clX10 ⟨Nat.le_of_ble_eq_true rfl, Nat.le_of_ble_eq_true rfl⟩ ⟨rfl, rfl⟩ (Nat.le_of_ble_eq_true rfl) fl_X10_375 (v := .int (i 78 63)) rfl dX10_enter_50 ?_
  refine lv_iconst (pc := 53) (v := 0) C0.1 C0.2.1 dX10_enter_53 (by decide) ?_
  refine xzast (pc := 54) (N := 1202) C0 (Nat.le_of_ble_eq_true rfl) hH hS 121 ⟨Nat.le_of_ble_eq_true rfl, Nat.le_of_ble_eq_true rfl⟩ ⟨rfl, rfl⟩ (by decide) (vI (by omega) (by omega)) dX10_enter_54 (fun _ locs hH hS => ?_)
  have hH : Hd D tA b 78 52 zz i (va_up (va_up (va_up (va_up (va_up F 116 (upd (F 116) (Int32.toNatClampNeg (i 78 63)) x)) 117 (upd (F 117) (Int32.toNatClampNeg (i 78 63)) (F 103 (Int32.toNatClampNeg x)))) 118 (upd (F 118) (Int32.toNatClampNeg (i 78 63)) (-1))) 119 (upd (F 119) (Int32.toNatClampNeg (i 78 63)) y)) 121 (upd (F 121) (Int32.toNatClampNeg (i 78 63)) 0)) G _ := hH
  refine lv_aload_n (pc := 55) C0.1 C0.2.1 dX10_enter_55 rfl (lv_at hl 0 rfl) ?_
  refine lv_dup (pc := 56) C0.1 C0.2.1 dX10_enter_56 rfl ?_
  refine xget (pc := 57) C0 hH 78 63 clX10 ⟨Nat.le_of_ble_eq_true rfl, Nat.le_of_ble_eq_true rfl⟩ ⟨rfl, rfl⟩ (Nat.le_of_ble_eq_true rfl) fl_X10_375 (v := .int (i 78 63)) rfl dX10_enter_57 ?_
  refine lv_iconst (pc := 60) (v := 1) C0.1 C0.2.1 dX10_enter_60 (by decide) ?_
  have : Int32.toInt 1 = 1 := rfl
  refine lv_iadd (pc := 61) C0.1 C0.2.1 dX10_enter_61 ?_
  refine lv_topi (fun x2 ex2 => ?_)
  have hx2 : Int32.toInt x2 = Int32.toInt (i 78 63) + Int32.toInt 1 := by rw [ex2]; exact fb_addI (by omega) (by omega)
  refine xputI (pc := 62) C0 (Nat.le_of_ble_eq_true rfl) hH hS 78 63 clX10 ⟨Nat.le_of_ble_eq_true rfl, Nat.le_of_ble_eq_true rfl⟩ ⟨rfl, rfl⟩ ⟨Nat.le_of_ble_eq_true rfl, rfl, rfl⟩ fl_X10_375 (x := x2) ⟨rfl, rfl⟩ dX10_enter_62 (fun _ locs hH hS _ => ?_)
  have hH : Hd D tA b 78 52 zz (up2 i 78 63 x2) (va_up (va_up (va_up (va_up (va_up F 116 (upd (F 116) (Int32.toNatClampNeg (i 78 63)) x)) 117 (upd (F 117) (Int32.toNatClampNeg (i 78 63)) (F 103 (Int32.toNatClampNeg x)))) 118 (upd (F 118) (Int32.toNatClampNeg (i 78 63)) (-1))) 119 (upd (F 119) (Int32.toNatClampNeg (i 78 63)) y)) 121 (upd (F 121) (Int32.toNatClampNeg (i 78 63)) 0)) G _ := hH
  exact xvret (pc := 65) C0 hr hH hS dX10_enter_65 ⟨(RO.f (RO.f (RO.f (RO.f (RO.f (RO.i RO.rf (by decide)) (by decide)) (by decide)) (by decide)) (by decide)) (by decide)), (show Int32.toInt x2 = _ from by omega), rfl, rfl, rfl, rfl⟩
set_option maxHeartbeats 4000000 in
set_option maxRecDepth 100000 in
theorem m_finish (l : Launch) (D : va_G) (tA : Nat → ClassId) (b : Nat) (i F : Nat → Nat → Int32) (G : Nat → Nat → Int64)  (hds : 0 ≤ (i 78 56).toInt) (hw : 0 ≤ (i 78 54).toInt ∧ (i 78 54).toInt ≤ 4000) : xMI l yX10_finish cX10_finish 2 (some .int) 0 0 D tA b 78 52 i F G [.ref (b + 78)] (fun r u => RO [54] [114] i F G u ∧ (0 ≤ (u.1 78 54).toInt ∧ (u.1 78 54).toInt ≤ 4000)) := by
  refine xstart RX10 rfl (by decide) (Nat.le_of_ble_eq_true rfl) ?_
  intro p e s m below meth c ls C0 hr hH hS hl
  have hl : lv_has ls 2 [(0, .ref (b + 78))] := hl
  have L15 : ∀ (d : Nat) (k : Int32) (iv Fv : Nat → Nat → Int32) (Gv : Nat → Nat → Int64) (H : Heap) (locs : List Loc) (ls : Array Slot), (0 ≤ k.toInt) → ((i 78 56).toInt - k.toInt ≤ d) → (RO [] [114] i F G (iv, Fv, Gv)) → ((i 78 56).toInt ≤ 4000) → Hd D tA b 78 52 zz iv Fv Gv H → va_S (xA b 78 52) s.heap H locs → lv_has ls 2 [(1, .int k), (0, .ref (b + 78))] → W p l e (xR 0 0) s m ([.ref (b + 78)] : List Value).toArray below meth c H locs 0 0 (MQ below (va_Qi (fun r u => RO [54] [114] i F G u ∧ (0 ≤ (u.1 78 54).toInt ∧ (u.1 78 54).toInt ≤ 4000)) (xB D tA b 78 52 zz) (xA b 78 52)) ([.ref (b + 78)] : List Value).toArray s 0 0 (xA b 78 52)) (F0 m 15 ls []) := by
    intro d
    induction d with
    | zero =>
      intro k iv Fv Gv H locs ls h1 h2 h3 h4 hH hS hl
      have rg_k := fb_rng k
      have ek56 : Int32.toInt (iv 78 56) = Int32.toInt (i 78 56) := congrArg Int32.toInt (h3.1 78 56 (Or.inr (by decide)))
      refine lv_iload_n (pc := 15) C0.1 C0.2.1 dX10_finish_15 rfl (lv_at hl 0 rfl) ?_
      refine lv_aload_n (pc := 16) C0.1 C0.2.1 dX10_finish_16 rfl (lv_at hl 1 rfl) ?_
      refine xget (pc := 17) C0 hH 78 56 clX10 ⟨Nat.le_of_ble_eq_true rfl, Nat.le_of_ble_eq_true rfl⟩ ⟨rfl, rfl⟩ (Nat.le_of_ble_eq_true rfl) fl_X10_369 (v := .int (iv 78 56)) rfl dX10_finish_17 ?_
      refine lv_icmp_ge (pc := 20) (tgt := 41) C0.1 C0.2.1 dX10_finish_20 (by decide) (fun _ => ?_) (fun c => absurd (Int32.le_iff_toInt_le.mpr (by omega)) c)
      refine lv_aload_n (pc := 41) C0.1 C0.2.1 dX10_finish_41 rfl (lv_at hl 1 rfl) ?_
      refine lv_aload_n (pc := 42) C0.1 C0.2.1 dX10_finish_42 rfl (lv_at hl 1 rfl) ?_
      refine xget (pc := 43) C0 hH 78 56 clX10 ⟨Nat.le_of_ble_eq_true rfl, Nat.le_of_ble_eq_true rfl⟩ ⟨rfl, rfl⟩ (Nat.le_of_ble_eq_true rfl) fl_X10_369 (v := .int (iv 78 56)) rfl dX10_finish_43 ?_
      refine lv_topi (fun x201 ex201 => ?_)
      refine xputI (pc := 46) C0 (Nat.le_of_ble_eq_true rfl) hH hS 78 54 clX10 ⟨Nat.le_of_ble_eq_true rfl, Nat.le_of_ble_eq_true rfl⟩ ⟨rfl, rfl⟩ ⟨Nat.le_of_ble_eq_true rfl, rfl, rfl⟩ fl_X10_378 (x := x201) ⟨rfl, rfl⟩ dX10_finish_46 (fun _ locs hH hS _ => ?_)
      have hH : Hd D tA b 78 52 zz (up2 iv 78 54 x201) Fv Gv _ := hH
      refine lv_aload_n (pc := 49) C0.1 C0.2.1 dX10_finish_49 rfl (lv_at hl 1 rfl) ?_
      refine xget (pc := 50) C0 hH 78 56 clX10 ⟨Nat.le_of_ble_eq_true rfl, Nat.le_of_ble_eq_true rfl⟩ ⟨rfl, rfl⟩ (Nat.le_of_ble_eq_true rfl) fl_X10_369 (v := .int (iv 78 56)) rfl dX10_finish_50 ?_
      exact xiret (pc := 53) C0 hr hH hS dX10_finish_53 ⟨(RO.i (RO.tr RO.rf h3 (by decide) (by decide)) (by decide)), (show 0 ≤ Int32.toInt x201 ∧ Int32.toInt x201 ≤ 4000 from by have := congrArg Int32.toInt ex201; omega)⟩
    | succ d ih15 =>
      intro k iv Fv Gv H locs ls h1 h2 h3 h4 hH hS hl
      have rg_k := fb_rng k
      have ek56 : Int32.toInt (iv 78 56) = Int32.toInt (i 78 56) := congrArg Int32.toInt (h3.1 78 56 (Or.inr (by decide)))
      refine lv_iload_n (pc := 15) C0.1 C0.2.1 dX10_finish_15 rfl (lv_at hl 0 rfl) ?_
      refine lv_aload_n (pc := 16) C0.1 C0.2.1 dX10_finish_16 rfl (lv_at hl 1 rfl) ?_
      refine xget (pc := 17) C0 hH 78 56 clX10 ⟨Nat.le_of_ble_eq_true rfl, Nat.le_of_ble_eq_true rfl⟩ ⟨rfl, rfl⟩ (Nat.le_of_ble_eq_true rfl) fl_X10_369 (v := .int (iv 78 56)) rfl dX10_finish_17 ?_
      refine lv_icmp_ge (pc := 20) (tgt := 41) C0.1 C0.2.1 dX10_finish_20 (by decide) (fun c201 => ?_) (fun c201 => ?_)
      · have c201 := Int32.le_iff_toInt_le.mp c201
        refine lv_aload_n (pc := 41) C0.1 C0.2.1 dX10_finish_41 rfl (lv_at hl 1 rfl) ?_
        refine lv_aload_n (pc := 42) C0.1 C0.2.1 dX10_finish_42 rfl (lv_at hl 1 rfl) ?_
        refine xget (pc := 43) C0 hH 78 56 clX10 ⟨Nat.le_of_ble_eq_true rfl, Nat.le_of_ble_eq_true rfl⟩ ⟨rfl, rfl⟩ (Nat.le_of_ble_eq_true rfl) fl_X10_369 (v := .int (iv 78 56)) rfl dX10_finish_43 ?_
        refine lv_topi (fun x202 ex202 => ?_)
        refine xputI (pc := 46) C0 (Nat.le_of_ble_eq_true rfl) hH hS 78 54 clX10 ⟨Nat.le_of_ble_eq_true rfl, Nat.le_of_ble_eq_true rfl⟩ ⟨rfl, rfl⟩ ⟨Nat.le_of_ble_eq_true rfl, rfl, rfl⟩ fl_X10_378 (x := x202) ⟨rfl, rfl⟩ dX10_finish_46 (fun _ locs hH hS _ => ?_)
        have hH : Hd D tA b 78 52 zz (up2 iv 78 54 x202) Fv Gv _ := hH
        refine lv_aload_n (pc := 49) C0.1 C0.2.1 dX10_finish_49 rfl (lv_at hl 1 rfl) ?_
        refine xget (pc := 50) C0 hH 78 56 clX10 ⟨Nat.le_of_ble_eq_true rfl, Nat.le_of_ble_eq_true rfl⟩ ⟨rfl, rfl⟩ (Nat.le_of_ble_eq_true rfl) fl_X10_369 (v := .int (iv 78 56)) rfl dX10_finish_50 ?_
        exact xiret (pc := 53) C0 hr hH hS dX10_finish_53 ⟨(RO.i (RO.tr RO.rf h3 (by decide) (by decide)) (by decide)), (show 0 ≤ Int32.toInt x202 ∧ Int32.toInt x202 ≤ 4000 from by have := congrArg Int32.toInt ex202; omega)⟩
      · have c201 : ¬ _ := fun q => c201 (Int32.le_iff_toInt_le.mpr q)
        refine lv_aload_n (pc := 23) C0.1 C0.2.1 dX10_finish_23 rfl (lv_at hl 1 rfl) ?_
        refine xget (pc := 24) C0 hH 78 53 clX10 ⟨Nat.le_of_ble_eq_true rfl, Nat.le_of_ble_eq_true rfl⟩ ⟨rfl, rfl⟩ (Nat.le_of_ble_eq_true rfl) fl_X10_121 (v := .ref (b + 114)) rfl dX10_finish_24 ?_
        refine lv_iload_n (pc := 27) C0.1 C0.2.1 dX10_finish_27 rfl (lv_at hl 0 rfl) ?_
        refine lv_aload_n (pc := 28) C0.1 C0.2.1 dX10_finish_28 rfl (lv_at hl 1 rfl) ?_
        refine xget (pc := 29) C0 hH 78 55 clX10 ⟨Nat.le_of_ble_eq_true rfl, Nat.le_of_ble_eq_true rfl⟩ ⟨rfl, rfl⟩ (Nat.le_of_ble_eq_true rfl) fl_X10_124 (v := .ref (b + 115)) rfl dX10_finish_29 ?_
        refine lv_iload_n (pc := 32) C0.1 C0.2.1 dX10_finish_32 rfl (lv_at hl 0 rfl) ?_
        refine xbald (pc := 33) (N := 4000) C0 hH 115 ⟨Nat.le_of_ble_eq_true rfl, Nat.le_of_ble_eq_true rfl⟩ ⟨rfl, rfl⟩ (vI (by omega) (by omega)) dX10_finish_33 ?_
        refine xbast (pc := 34) (N := 4000) C0 (Nat.le_of_ble_eq_true rfl) hH hS 114 ⟨Nat.le_of_ble_eq_true rfl, Nat.le_of_ble_eq_true rfl⟩ ⟨rfl, rfl⟩ (vI (by omega) (by omega)) dX10_finish_34 (fun _ locs hH hS => ?_)
        have hH : Hd D tA b 78 52 zz iv (va_up Fv 114 (upd (Fv 114) (Int32.toNatClampNeg k) (Int8.toInt32 (Int32.toInt8 (Fv 115 (Int32.toNatClampNeg k)))))) Gv _ := hH
        obtain ⟨x203, ex203⟩ : ∃ y_ : Int32, y_ = k + 1 := ⟨_, rfl⟩
        have : Int32.toInt 1 = 1 := rfl
        have hx203 : Int32.toInt x203 = Int32.toInt k + Int32.toInt 1 := by rw [ex203]; exact fb_addI (by omega) (by omega)
        refine lv_iinc (pc := 35) (v := x203) (lv' := [(1, .int x203), (0, .ref (b + 78))]) C0.1 C0.2.1 dX10_finish_35 hl (k := 0) rfl (by rw [ex203]; rfl) (by decide) rfl (fun ls hl => ?_)
        refine lv_goto (pc := 38) (tgt := 15) C0.1 C0.2.1 dX10_finish_38 (by decide) ?_
        exact ih15 x203 iv (va_up Fv 114 (upd (Fv 114) (Int32.toNatClampNeg k) (Int8.toInt32 (Int32.toInt8 (Fv 115 (Int32.toNatClampNeg k)))))) Gv _ _ _ (by omega) (by omega) (RO.f h3 (by decide)) h4 hH hS (lv_sub hl [0, 1] rfl)
  refine lv_aload_n (pc := 0) C0.1 C0.2.1 dX10_finish_0 rfl (lv_at hl 0 rfl) ?_
  refine xget (pc := 1) C0 hH 78 56 clX10 ⟨Nat.le_of_ble_eq_true rfl, Nat.le_of_ble_eq_true rfl⟩ ⟨rfl, rfl⟩ (Nat.le_of_ble_eq_true rfl) fl_X10_369 (v := .int (i 78 56)) rfl dX10_finish_1 ?_
  refine lv_sipush (pc := 4) (v := 4000) C0.1 C0.2.1 dX10_finish_4 (by decide) ?_
  refine lv_icmp_le (pc := 7) (tgt := 13) C0.1 C0.2.1 dX10_finish_7 (by decide) (fun c1 => ?_) (fun c1 => ?_)
  · have : Int32.toInt 4000 = 4000 := rfl
    have c1 := Int32.le_iff_toInt_le.mp c1
    refine lv_iconst (pc := 13) (v := 0) C0.1 C0.2.1 dX10_finish_13 (by decide) ?_
    refine lv_istore_n (pc := 14) (lv' := [(1, .int 0), (0, .ref (b + 78))]) C0.1 C0.2.1 dX10_finish_14 rfl hl (by decide) rfl (fun ls hl => ?_)
    exact L15 4000 0 i F G _ _ _ (by decide) (by have : Int32.toInt 0 = 0 := rfl; omega) RO.rf (by omega) hH hS (lv_sub hl [0, 1] rfl)
  · have : Int32.toInt 4000 = 4000 := rfl
    have c1 : ¬ _ := fun q => c1 (Int32.le_iff_toInt_le.mpr q)
    refine lv_bipush (pc := 10) (v := (-4)) C0.1 C0.2.1 dX10_finish_10 (by decide) ?_
    exact xiret (pc := 12) C0 hr hH hS dX10_finish_12 ⟨RO.rf, hw⟩
