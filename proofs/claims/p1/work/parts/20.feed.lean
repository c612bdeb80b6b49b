set_option maxRecDepth 20000 in
theorem cw_X6_19 : CwN RX6 "IndentReader" 19 yX9_bytesIn cX9_bytesIn 3 (some .int) 1 := ⟨nm_ 587 (by decide +kernel) rfl, wm 1 (by decide +kernel) rfl, wm 430 rfl rfl, by decide +kernel⟩
set_option maxRecDepth 20000 in
theorem st_X9_bytesIn : Cond.static yX9_bytesIn ∈ WALL := wm 429 (by decide +kernel) rfl
set_option maxRecDepth 20000 in
theorem cw_X6_23 : CwN RX6 "IndentReader" 23 yX9_byteOf cX9_byteOf 3 (some .int) 2 := ⟨nm_ 588 (by decide +kernel) rfl, wm 1 (by decide +kernel) rfl, wm 433 rfl rfl, by decide +kernel⟩
set_option maxRecDepth 20000 in
theorem st_X9_byteOf : Cond.static yX9_byteOf ∈ WALL := wm 432 (by decide +kernel) rfl
set_option maxRecDepth 20000 in
theorem cw_X9_89 : CwV RX9 89 yX6_append cX6_append 5 (some .int) 1 := ⟨wm 583 (by decide +kernel) rfl, wm 584 (by decide +kernel) rfl, wm 585 (by decide +kernel) rfl, wm 3 (by decide +kernel) rfl, wm 586 rfl rfl, by decide +kernel⟩
theorem dX6_append_0 : decode cX6_append 0 = .ok (.lload_n 1, 1) := by decide +kernel
theorem dX6_append_1 : decode cX6_append 1 = .ok (.invokestatic 19, 3) := by decide +kernel
theorem dX6_append_4 : decode cX6_append 4 = .ok (.istore_n 3, 1) := by decide +kernel
theorem dX6_append_5 : decode cX6_append 5 = .ok (.aload_n 0, 1) := by decide +kernel
theorem dX6_append_6 : decode cX6_append 6 = .ok (.getfield 15, 3) := by decide +kernel
theorem dX6_append_9 : decode cX6_append 9 = .ok (.iload_n 3, 1) := by decide +kernel
theorem dX6_append_10 : decode cX6_append 10 = .ok (.iadd, 1) := by decide +kernel
theorem dX6_append_11 : decode cX6_append 11 = .ok (.sipush 600, 3) := by decide +kernel
theorem dX6_append_14 : decode cX6_append 14 = .ok (.if_icmp .le 6, 3) := by decide +kernel
theorem dX6_append_20 : decode cX6_append 20 = .ok (.iconst 0, 1) := by decide +kernel
theorem dX6_append_21 : decode cX6_append 21 = .ok (.istore 4, 2) := by decide +kernel
theorem dX6_append_23 : decode cX6_append 23 = .ok (.iload 4, 2) := by decide +kernel
theorem dX6_append_25 : decode cX6_append 25 = .ok (.iload_n 3, 1) := by decide +kernel
theorem dX6_append_26 : decode cX6_append 26 = .ok (.if_icmp .ge 28, 3) := by decide +kernel
theorem dX6_append_54 : decode cX6_append 54 = .ok (.aload_n 0, 1) := by decide +kernel
theorem dX6_append_55 : decode cX6_append 55 = .ok (.dup, 1) := by decide +kernel
theorem dX6_append_56 : decode cX6_append 56 = .ok (.getfield 15, 3) := by decide +kernel
theorem dX6_append_59 : decode cX6_append 59 = .ok (.iload_n 3, 1) := by decide +kernel
theorem dX6_append_60 : decode cX6_append 60 = .ok (.iadd, 1) := by decide +kernel
theorem dX6_append_61 : decode cX6_append 61 = .ok (.putfield 15, 3) := by decide +kernel
theorem dX6_append_64 : decode cX6_append 64 = .ok (.aload_n 0, 1) := by decide +kernel
theorem dX6_append_65 : decode cX6_append 65 = .ok (.getfield 15, 3) := by decide +kernel
theorem dX6_append_68 : decode cX6_append 68 = .ok (.ireturn, 1) := by decide +kernel
theorem dX6_append_29 : decode cX6_append 29 = .ok (.aload_n 0, 1) := by decide +kernel
theorem dX6_append_30 : decode cX6_append 30 = .ok (.getfield 9, 3) := by decide +kernel
theorem dX6_append_33 : decode cX6_append 33 = .ok (.aload_n 0, 1) := by decide +kernel
theorem dX6_append_34 : decode cX6_append 34 = .ok (.getfield 15, 3) := by decide +kernel
theorem dX6_append_37 : decode cX6_append 37 = .ok (.iload 4, 2) := by decide +kernel
theorem dX6_append_39 : decode cX6_append 39 = .ok (.iadd, 1) := by decide +kernel
theorem dX6_append_40 : decode cX6_append 40 = .ok (.lload_n 1, 1) := by decide +kernel
theorem dX6_append_41 : decode cX6_append 41 = .ok (.iload 4, 2) := by decide +kernel
theorem dX6_append_43 : decode cX6_append 43 = .ok (.invokestatic 23, 3) := by decide +kernel
theorem dX6_append_46 : decode cX6_append 46 = .ok (.i2b, 1) := by decide +kernel
theorem dX6_append_47 : decode cX6_append 47 = .ok (.bastore, 1) := by decide +kernel
theorem dX6_append_48 : decode cX6_append 48 = .ok (.iinc 4 1, 3) := by decide +kernel
theorem dX6_append_51 : decode cX6_append 51 = .ok (.goto (-28), 3) := by decide +kernel
theorem dX9_feed_0 : decode cX9_feed 0 = .ok (.aload_n 0, 1) := by decide +kernel
theorem dX9_feed_1 : decode cX9_feed 1 = .ok (.aload_n 0, 1) := by decide +kernel
theorem dX9_feed_2 : decode cX9_feed 2 = .ok (.getfield 19, 3) := by decide +kernel
theorem dX9_feed_5 : decode cX9_feed 5 = .ok (.lload_n 1, 1) := by decide +kernel
theorem dX9_feed_6 : decode cX9_feed 6 = .ok (.invokevirtual 89, 3) := by decide +kernel
theorem dX9_feed_9 : decode cX9_feed 9 = .ok (.invokevirtual 71, 3) := by decide +kernel
theorem dX9_feed_12 : decode cX9_feed 12 = .ok (.ireturn, 1) := by decide +kernel
set_option maxHeartbeats 4000000 in
set_option maxRecDepth 100000 in
theorem m51_X6_append (l : Launch) (D : va_G) (tA : Nat → ClassId) (b : Nat) (i F : Nat → Nat → Int32) (G : Nat → Nat → Int64) (w : Int64) (hi_4_1 : i 4 1 = 0) : xMI l yX6_append cX6_append 5 (some .int) 2 44 D tA b 0 78 i F G [.ref (b + 4), .long w] (fun r _ => r = nI (zl w)) := by
  refine xstart RX6 rfl (by decide) (Nat.le_of_ble_eq_true rfl) ?_
  intro p e s m below meth c ls C0 hr hH hS hl
  have hl : lv_has ls 5 [(0, .ref (b + 4)), (1, .long w)] := hl
  refine lv_lload_n (pc := 0) C0.1 C0.2.1 dX6_append_0 rfl (lv_at hl 1 rfl) ?_
  refine xcNI (pc := 1) [.long w] (c_X9_bytesIn l D tA b 0 78 i F G w) C0 hH hS cw_X6_19 st_X9_bytesIn rfl ⟨Nat.le_of_ble_eq_true rfl, Nat.le_of_ble_eq_true rfl⟩ hl.1 rfl (Nat.le_of_ble_eq_true rfl) dX6_append_1 ⟨Nat.le_of_ble_eq_true rfl, Nat.le_of_ble_eq_true rfl⟩ (fun r1 ir1 Fr1 Gr1 _ locs hp hH hS => ?_)
  obtain ⟨hu, rfl⟩ := hp
  cases hu
  refine lv_istore_n (pc := 4) (lv' := [(3, .int (nI (zl w))), (0, .ref (b + 4)), (1, .long w)]) C0.1 C0.2.1 dX6_append_4 rfl hl (by decide) rfl (fun ls hl => ?_)
  refine lv_aload_n (pc := 5) C0.1 C0.2.1 dX6_append_5 rfl (lv_at hl 1 rfl) ?_
  refine xget (pc := 6) C0 hH 4 1 clX6 ⟨Nat.le_of_ble_eq_true rfl, Nat.le_of_ble_eq_true rfl⟩ ⟨rfl, rfl⟩ (Nat.le_of_ble_eq_true rfl) fl_X6_15 (v := .int 0) (congrArg Value.int hi_4_1) dX6_append_6 ?_
  refine lv_iload_n (pc := 9) C0.1 C0.2.1 dX6_append_9 rfl (lv_at hl 0 rfl) ?_
  refine lv_iadd (pc := 10) C0.1 C0.2.1 dX6_append_10 ?_
  refine lv_sipush (pc := 11) (v := 600) C0.1 C0.2.1 dX6_append_11 (by decide) ?_
  refine lv_icmp_le (pc := 14) (tgt := 20) C0.1 C0.2.1 dX6_append_14 (by decide) (fun _ => ?_) (fun c => absurd (by rw [Int32.zero_add]; exact nI_le (b := 600) (Nat.le_trans (zl_le _) (by decide)) (by decide)) c)
  refine lv_iconst (pc := 20) (v := 0) C0.1 C0.2.1 dX6_append_20 (by decide) ?_
  refine lv_istore (pc := 21) (lv' := [(4, .int 0), (3, .int (nI (zl w))), (0, .ref (b + 4)), (1, .long w)]) C0.1 C0.2.1 dX6_append_21 hl (by decide) rfl (fun ls hl => ?_)
  refine lv_iload (pc := 23) C0.1 C0.2.1 dX6_append_23 (lv_at hl 0 rfl) ?_
  refine lv_iload_n (pc := 25) C0.1 C0.2.1 dX6_append_25 rfl (lv_at hl 1 rfl) ?_
  refine lv_icmp_ge (pc := 26) (tgt := 54) C0.1 C0.2.1 dX6_append_26 (by decide) (fun c2 => ?_) (fun c2 => ?_)
  · have c2 := le_nI (a := zl w) (b := 0) (zl_lb _) (by decide) c2
    refine lv_aload_n (pc := 54) C0.1 C0.2.1 dX6_append_54 rfl (lv_at hl 2 rfl) ?_
    refine lv_dup (pc := 55) C0.1 C0.2.1 dX6_append_55 rfl ?_
    refine xget (pc := 56) C0 hH 4 1 clX6 ⟨Nat.le_of_ble_eq_true rfl, Nat.le_of_ble_eq_true rfl⟩ ⟨rfl, rfl⟩ (Nat.le_of_ble_eq_true rfl) fl_X6_15 (v := .int 0) (congrArg Value.int hi_4_1) dX6_append_56 ?_
    refine lv_iload_n (pc := 59) C0.1 C0.2.1 dX6_append_59 rfl (lv_at hl 1 rfl) ?_
    refine lv_iadd (pc := 60) C0.1 C0.2.1 dX6_append_60 ?_
    refine lv_topi (fun x3 ex3 => ?_)
    refine xputI (pc := 61) C0 (Nat.le_of_ble_eq_true rfl) hH hS 4 1 clX6 ⟨Nat.le_of_ble_eq_true rfl, Nat.le_of_ble_eq_true rfl⟩ ⟨rfl, rfl⟩ ⟨Nat.le_of_ble_eq_true rfl, rfl, rfl⟩ fl_X6_15 (x := x3) ⟨rfl, rfl⟩ dX6_append_61 (fun _ locs hH hS _ => ?_)
    have hH : Hd D tA b 0 78 zz (up2 i 4 1 x3) F G _ := hH
    refine lv_aload_n (pc := 64) C0.1 C0.2.1 dX6_append_64 rfl (lv_at hl 2 rfl) ?_
    refine xget (pc := 65) C0 hH 4 1 clX6 ⟨Nat.le_of_ble_eq_true rfl, Nat.le_of_ble_eq_true rfl⟩ ⟨rfl, rfl⟩ (Nat.le_of_ble_eq_true rfl) fl_X6_15 (v := .int x3) rfl dX6_append_65 ?_
    exact xiret (pc := 68) C0 hr hH hS dX6_append_68 (by subst_vars; exact Int32.zero_add _)
  · have c2 := lt_nI (a := zl w) (b := 0) (zl_lb _) (by decide) c2
    refine lv_aload_n (pc := 29) C0.1 C0.2.1 dX6_append_29 rfl (lv_at hl 2 rfl) ?_
    refine xget (pc := 30) C0 hH 4 0 clX6 ⟨Nat.le_of_ble_eq_true rfl, Nat.le_of_ble_eq_true rfl⟩ ⟨rfl, rfl⟩ (Nat.le_of_ble_eq_true rfl) fl_X6_9 (v := .ref (b + 5)) rfl dX6_append_30 ?_
    refine lv_aload_n (pc := 33) C0.1 C0.2.1 dX6_append_33 rfl (lv_at hl 2 rfl) ?_
    refine xget (pc := 34) C0 hH 4 1 clX6 ⟨Nat.le_of_ble_eq_true rfl, Nat.le_of_ble_eq_true rfl⟩ ⟨rfl, rfl⟩ (Nat.le_of_ble_eq_true rfl) fl_X6_15 (v := .int 0) (congrArg Value.int hi_4_1) dX6_append_34 ?_
    refine lv_iload (pc := 37) C0.1 C0.2.1 dX6_append_37 (lv_at hl 0 rfl) ?_
    refine lv_iadd (pc := 39) C0.1 C0.2.1 dX6_append_39 ?_
    refine lv_topi (fun q4 eq4 => ?_)
    obtain rfl : q4 = 0 := eq4.trans (by decide)
    refine lv_lload_n (pc := 40) C0.1 C0.2.1 dX6_append_40 rfl (lv_at hl 3 rfl) ?_
    refine lv_iload (pc := 41) C0.1 C0.2.1 dX6_append_41 (lv_at hl 0 rfl) ?_
    refine xcNI (pc := 43) [.long w, .int 0] (c_X9_byteOf l D tA b 0 78 i F G w 0 (by decide)) C0 hH hS cw_X6_23 st_X9_byteOf rfl ⟨Nat.le_of_ble_eq_true rfl, Nat.le_of_ble_eq_true rfl⟩ hl.1 rfl (Nat.le_of_ble_eq_true rfl) dX6_append_43 ⟨Nat.le_of_ble_eq_true rfl, Nat.le_of_ble_eq_true rfl⟩ (fun r5 ir5 Fr5 Gr5 _ locs hp hH hS => ?_)
    obtain ⟨hu, rfl⟩ := hp
    cases hu
    refine lv_i2b (pc := 46) (v := (nI (bt w 0)).toInt8.toInt32) C0.1 C0.2.1 dX6_append_46 rfl ?_
    refine xbast (pc := 47) (N := 600) C0 (Nat.le_of_ble_eq_true rfl) hH hS 5 ⟨Nat.le_of_ble_eq_true rfl, Nat.le_of_ble_eq_true rfl⟩ ⟨rfl, rfl⟩ (vin (by decide)) dX6_append_47 (fun _ locs hH hS => ?_)
    have hH : Hd D tA b 0 78 zz i (va_up F 5 (upd (F 5) (Int32.toNatClampNeg 0) (Int8.toInt32 (Int32.toInt8 ((nI (bt w 0)).toInt8.toInt32))))) G _ := hH
    refine lv_iinc (pc := 48) (v := 1) (lv' := [(4, .int 1), (3, .int (nI (zl w))), (0, .ref (b + 4)), (1, .long w)]) C0.1 C0.2.1 dX6_append_48 hl (k := 0) rfl (by decide) (by decide) rfl (fun ls hl => ?_)
    refine lv_goto (pc := 51) (tgt := 23) C0.1 C0.2.1 dX6_append_51 (by decide) ?_
    refine lv_iload (pc := 23) C0.1 C0.2.1 dX6_append_23 (lv_at hl 0 rfl) ?_
    refine lv_iload_n (pc := 25) C0.1 C0.2.1 dX6_append_25 rfl (lv_at hl 1 rfl) ?_
    refine lv_icmp_ge (pc := 26) (tgt := 54) C0.1 C0.2.1 dX6_append_26 (by decide) (fun c6 => ?_) (fun c6 => ?_)
    · have c6 := le_nI (a := zl w) (b := 1) (zl_lb _) (by decide) c6
      refine lv_aload_n (pc := 54) C0.1 C0.2.1 dX6_append_54 rfl (lv_at hl 2 rfl) ?_
      refine lv_dup (pc := 55) C0.1 C0.2.1 dX6_append_55 rfl ?_
      refine xget (pc := 56) C0 hH 4 1 clX6 ⟨Nat.le_of_ble_eq_true rfl, Nat.le_of_ble_eq_true rfl⟩ ⟨rfl, rfl⟩ (Nat.le_of_ble_eq_true rfl) fl_X6_15 (v := .int 0) (congrArg Value.int hi_4_1) dX6_append_56 ?_
      refine lv_iload_n (pc := 59) C0.1 C0.2.1 dX6_append_59 rfl (lv_at hl 1 rfl) ?_
      refine lv_iadd (pc := 60) C0.1 C0.2.1 dX6_append_60 ?_
      refine lv_topi (fun x7 ex7 => ?_)
      refine xputI (pc := 61) C0 (Nat.le_of_ble_eq_true rfl) hH hS 4 1 clX6 ⟨Nat.le_of_ble_eq_true rfl, Nat.le_of_ble_eq_true rfl⟩ ⟨rfl, rfl⟩ ⟨Nat.le_of_ble_eq_true rfl, rfl, rfl⟩ fl_X6_15 (x := x7) ⟨rfl, rfl⟩ dX6_append_61 (fun _ locs hH hS _ => ?_)
      have hH : Hd D tA b 0 78 zz (up2 i 4 1 x7) (va_up F 5 (upd (F 5) (Int32.toNatClampNeg 0) (Int8.toInt32 (Int32.toInt8 ((nI (bt w 0)).toInt8.toInt32))))) G _ := hH
      refine lv_aload_n (pc := 64) C0.1 C0.2.1 dX6_append_64 rfl (lv_at hl 2 rfl) ?_
      refine xget (pc := 65) C0 hH 4 1 clX6 ⟨Nat.le_of_ble_eq_true rfl, Nat.le_of_ble_eq_true rfl⟩ ⟨rfl, rfl⟩ (Nat.le_of_ble_eq_true rfl) fl_X6_15 (v := .int x7) rfl dX6_append_65 ?_
      exact xiret (pc := 68) C0 hr hH hS dX6_append_68 (by subst_vars; exact Int32.zero_add _)
    · have c6 := lt_nI (a := zl w) (b := 1) (zl_lb _) (by decide) c6
      refine lv_aload_n (pc := 29) C0.1 C0.2.1 dX6_append_29 rfl (lv_at hl 2 rfl) ?_
      refine xget (pc := 30) C0 hH 4 0 clX6 ⟨Nat.le_of_ble_eq_true rfl, Nat.le_of_ble_eq_true rfl⟩ ⟨rfl, rfl⟩ (Nat.le_of_ble_eq_true rfl) fl_X6_9 (v := .ref (b + 5)) rfl dX6_append_30 ?_
      refine lv_aload_n (pc := 33) C0.1 C0.2.1 dX6_append_33 rfl (lv_at hl 2 rfl) ?_
      refine xget (pc := 34) C0 hH 4 1 clX6 ⟨Nat.le_of_ble_eq_true rfl, Nat.le_of_ble_eq_true rfl⟩ ⟨rfl, rfl⟩ (Nat.le_of_ble_eq_true rfl) fl_X6_15 (v := .int 0) (congrArg Value.int hi_4_1) dX6_append_34 ?_
      refine lv_iload (pc := 37) C0.1 C0.2.1 dX6_append_37 (lv_at hl 0 rfl) ?_
      refine lv_iadd (pc := 39) C0.1 C0.2.1 dX6_append_39 ?_
      refine lv_topi (fun q8 eq8 => ?_)
      obtain rfl : q8 = 1 := eq8.trans (by decide)
      refine lv_lload_n (pc := 40) C0.1 C0.2.1 dX6_append_40 rfl (lv_at hl 3 rfl) ?_
      refine lv_iload (pc := 41) C0.1 C0.2.1 dX6_append_41 (lv_at hl 0 rfl) ?_
      refine xcNI (pc := 43) [.long w, .int 1] (c_X9_byteOf l D tA b 0 78 i (va_up F 5 (upd (F 5) (Int32.toNatClampNeg 0) (Int8.toInt32 (Int32.toInt8 ((nI (bt w 0)).toInt8.toInt32))))) G w 1 (by decide)) C0 hH hS cw_X6_23 st_X9_byteOf rfl ⟨Nat.le_of_ble_eq_true rfl, Nat.le_of_ble_eq_true rfl⟩ hl.1 rfl (Nat.le_of_ble_eq_true rfl) dX6_append_43 ⟨Nat.le_of_ble_eq_true rfl, Nat.le_of_ble_eq_true rfl⟩ (fun r9 ir9 Fr9 Gr9 _ locs hp hH hS => ?_)
      obtain ⟨hu, rfl⟩ := hp
      cases hu
      refine lv_i2b (pc := 46) (v := (nI (bt w 1)).toInt8.toInt32) C0.1 C0.2.1 dX6_append_46 rfl ?_
      refine xbast (pc := 47) (N := 600) C0 (Nat.le_of_ble_eq_true rfl) hH hS 5 ⟨Nat.le_of_ble_eq_true rfl, Nat.le_of_ble_eq_true rfl⟩ ⟨rfl, rfl⟩ (vin (by decide)) dX6_append_47 (fun _ locs hH hS => ?_)
      have hH : Hd D tA b 0 78 zz i (va_up (va_up F 5 (upd (F 5) (Int32.toNatClampNeg 0) (Int8.toInt32 (Int32.toInt8 ((nI (bt w 0)).toInt8.toInt32))))) 5 (upd (upd (F 5) (Int32.toNatClampNeg 0) (Int8.toInt32 (Int32.toInt8 ((nI (bt w 0)).toInt8.toInt32)))) (Int32.toNatClampNeg 1) (Int8.toInt32 (Int32.toInt8 ((nI (bt w 1)).toInt8.toInt32))))) G _ := hH
      refine lv_iinc (pc := 48) (v := 2) (lv' := [(4, .int 2), (3, .int (nI (zl w))), (0, .ref (b + 4)), (1, .long w)]) C0.1 C0.2.1 dX6_append_48 hl (k := 0) rfl (by decide) (by decide) rfl (fun ls hl => ?_)
      refine lv_goto (pc := 51) (tgt := 23) C0.1 C0.2.1 dX6_append_51 (by decide) ?_
      refine lv_iload (pc := 23) C0.1 C0.2.1 dX6_append_23 (lv_at hl 0 rfl) ?_
      refine lv_iload_n (pc := 25) C0.1 C0.2.1 dX6_append_25 rfl (lv_at hl 1 rfl) ?_
      refine lv_icmp_ge (pc := 26) (tgt := 54) C0.1 C0.2.1 dX6_append_26 (by decide) (fun c10 => ?_) (fun c10 => ?_)
      · have c10 := le_nI (a := zl w) (b := 2) (zl_lb _) (by decide) c10
        refine lv_aload_n (pc := 54) C0.1 C0.2.1 dX6_append_54 rfl (lv_at hl 2 rfl) ?_
        refine lv_dup (pc := 55) C0.1 C0.2.1 dX6_append_55 rfl ?_
        refine xget (pc := 56) C0 hH 4 1 clX6 ⟨Nat.le_of_ble_eq_true rfl, Nat.le_of_ble_eq_true rfl⟩ ⟨rfl, rfl⟩ (Nat.le_of_ble_eq_true rfl) fl_X6_15 (v := .int 0) (congrArg Value.int hi_4_1) dX6_append_56 ?_
        refine lv_iload_n (pc := 59) C0.1 C0.2.1 dX6_append_59 rfl (lv_at hl 1 rfl) ?_
        refine lv_iadd (pc := 60) C0.1 C0.2.1 dX6_append_60 ?_
        refine lv_topi (fun x11 ex11 => ?_)
        refine xputI (pc := 61) C0 (Nat.le_of_ble_eq_true rfl) hH hS 4 1 clX6 ⟨Nat.le_of_ble_eq_true rfl, Nat.le_of_ble_eq_true rfl⟩ ⟨rfl, rfl⟩ ⟨Nat.le_of_ble_eq_true rfl, rfl, rfl⟩ fl_X6_15 (x := x11) ⟨rfl, rfl⟩ dX6_append_61 (fun _ locs hH hS _ => ?_)
        have hH : Hd D tA b 0 78 zz (up2 i 4 1 x11) (va_up (va_up F 5 (upd (F 5) (Int32.toNatClampNeg 0) (Int8.toInt32 (Int32.toInt8 ((nI (bt w 0)).toInt8.toInt32))))) 5 (upd (upd (F 5) (Int32.toNatClampNeg 0) (Int8.toInt32 (Int32.toInt8 ((nI (bt w 0)).toInt8.toInt32)))) (Int32.toNatClampNeg 1) (Int8.toInt32 (Int32.toInt8 ((nI (bt w 1)).toInt8.toInt32))))) G _ := hH
        refine lv_aload_n (pc := 64) C0.1 C0.2.1 dX6_append_64 rfl (lv_at hl 2 rfl) ?_
        refine xget (pc := 65) C0 hH 4 1 clX6 ⟨Nat.le_of_ble_eq_true rfl, Nat.le_of_ble_eq_true rfl⟩ ⟨rfl, rfl⟩ (Nat.le_of_ble_eq_true rfl) fl_X6_15 (v := .int x11) rfl dX6_append_65 ?_
        exact xiret (pc := 68) C0 hr hH hS dX6_append_68 (by subst_vars; exact Int32.zero_add _)
      · have c10 := lt_nI (a := zl w) (b := 2) (zl_lb _) (by decide) c10
        refine lv_aload_n (pc := 29) C0.1 C0.2.1 dX6_append_29 rfl (lv_at hl 2 rfl) ?_
        refine xget (pc := 30) C0 hH 4 0 clX6 ⟨Nat.le_of_ble_eq_true rfl, Nat.le_of_ble_eq_true rfl⟩ ⟨rfl, rfl⟩ (Nat.le_of_ble_eq_true rfl) fl_X6_9 (v := .ref (b + 5)) rfl dX6_append_30 ?_
        refine lv_aload_n (pc := 33) C0.1 C0.2.1 dX6_append_33 rfl (lv_at hl 2 rfl) ?_
        refine xget (pc := 34) C0 hH 4 1 clX6 ⟨Nat.le_of_ble_eq_true rfl, Nat.le_of_ble_eq_true rfl⟩ ⟨rfl, rfl⟩ (Nat.le_of_ble_eq_true rfl) fl_X6_15 (v := .int 0) (congrArg Value.int hi_4_1) dX6_append_34 ?_
        refine lv_iload (pc := 37) C0.1 C0.2.1 dX6_append_37 (lv_at hl 0 rfl) ?_
        refine lv_iadd (pc := 39) C0.1 C0.2.1 dX6_append_39 ?_
        refine lv_topi (fun q12 eq12 => ?_)
        obtain rfl : q12 = 2 := eq12.trans (by decide)
        refine lv_lload_n (pc := 40) C0.1 C0.2.1 dX6_append_40 rfl (lv_at hl 3 rfl) ?_
        refine lv_iload (pc := 41) C0.1 C0.2.1 dX6_append_41 (lv_at hl 0 rfl) ?_
        refine xcNI (pc := 43) [.long w, .int 2] (c_X9_byteOf l D tA b 0 78 i (va_up (va_up F 5 (upd (F 5) (Int32.toNatClampNeg 0) (Int8.toInt32 (Int32.toInt8 ((nI (bt w 0)).toInt8.toInt32))))) 5 (upd (upd (F 5) (Int32.toNatClampNeg 0) (Int8.toInt32 (Int32.toInt8 ((nI (bt w 0)).toInt8.toInt32)))) (Int32.toNatClampNeg 1) (Int8.toInt32 (Int32.toInt8 ((nI (bt w 1)).toInt8.toInt32))))) G w 2 (by decide)) C0 hH hS cw_X6_23 st_X9_byteOf rfl ⟨Nat.le_of_ble_eq_true rfl, Nat.le_of_ble_eq_true rfl⟩ hl.1 rfl (Nat.le_of_ble_eq_true rfl) dX6_append_43 ⟨Nat.le_of_ble_eq_true rfl, Nat.le_of_ble_eq_true rfl⟩ (fun r13 ir13 Fr13 Gr13 _ locs hp hH hS => ?_)
        obtain ⟨hu, rfl⟩ := hp
        cases hu
        refine lv_i2b (pc := 46) (v := (nI (bt w 2)).toInt8.toInt32) C0.1 C0.2.1 dX6_append_46 rfl ?_
        refine xbast (pc := 47) (N := 600) C0 (Nat.le_of_ble_eq_true rfl) hH hS 5 ⟨Nat.le_of_ble_eq_true rfl, Nat.le_of_ble_eq_true rfl⟩ ⟨rfl, rfl⟩ (vin (by decide)) dX6_append_47 (fun _ locs hH hS => ?_)
        have hH : Hd D tA b 0 78 zz i (va_up (va_up (va_up F 5 (upd (F 5) (Int32.toNatClampNeg 0) (Int8.toInt32 (Int32.toInt8 ((nI (bt w 0)).toInt8.toInt32))))) 5 (upd (upd (F 5) (Int32.toNatClampNeg 0) (Int8.toInt32 (Int32.toInt8 ((nI (bt w 0)).toInt8.toInt32)))) (Int32.toNatClampNeg 1) (Int8.toInt32 (Int32.toInt8 ((nI (bt w 1)).toInt8.toInt32))))) 5 (upd (upd (upd (F 5) (Int32.toNatClampNeg 0) (Int8.toInt32 (Int32.toInt8 ((nI (bt w 0)).toInt8.toInt32)))) (Int32.toNatClampNeg 1) (Int8.toInt32 (Int32.toInt8 ((nI (bt w 1)).toInt8.toInt32)))) (Int32.toNatClampNeg 2) (Int8.toInt32 (Int32.toInt8 ((nI (bt w 2)).toInt8.toInt32))))) G _ := hH
        refine lv_iinc (pc := 48) (v := 3) (lv' := [(4, .int 3), (3, .int (nI (zl w))), (0, .ref (b + 4)), (1, .long w)]) C0.1 C0.2.1 dX6_append_48 hl (k := 0) rfl (by decide) (by decide) rfl (fun ls hl => ?_)
        refine lv_goto (pc := 51) (tgt := 23) C0.1 C0.2.1 dX6_append_51 (by decide) ?_
        refine lv_iload (pc := 23) C0.1 C0.2.1 dX6_append_23 (lv_at hl 0 rfl) ?_
        refine lv_iload_n (pc := 25) C0.1 C0.2.1 dX6_append_25 rfl (lv_at hl 1 rfl) ?_
        refine lv_icmp_ge (pc := 26) (tgt := 54) C0.1 C0.2.1 dX6_append_26 (by decide) (fun c14 => ?_) (fun c14 => ?_)
        · have c14 := le_nI (a := zl w) (b := 3) (zl_lb _) (by decide) c14
          refine lv_aload_n (pc := 54) C0.1 C0.2.1 dX6_append_54 rfl (lv_at hl 2 rfl) ?_
          refine lv_dup (pc := 55) C0.1 C0.2.1 dX6_append_55 rfl ?_
          refine xget (pc := 56) C0 hH 4 1 clX6 ⟨Nat.le_of_ble_eq_true rfl, Nat.le_of_ble_eq_true rfl⟩ ⟨rfl, rfl⟩ (Nat.le_of_ble_eq_true rfl) fl_X6_15 (v := .int 0) (congrArg Value.int hi_4_1) dX6_append_56 ?_
          refine lv_iload_n (pc := 59) C0.1 C0.2.1 dX6_append_59 rfl (lv_at hl 1 rfl) ?_
          refine lv_iadd (pc := 60) C0.1 C0.2.1 dX6_append_60 ?_
          refine lv_topi (fun x15 ex15 => ?_)
          refine xputI (pc := 61) C0 (Nat.le_of_ble_eq_true rfl) hH hS 4 1 clX6 ⟨Nat.le_of_ble_eq_true rfl, Nat.le_of_ble_eq_true rfl⟩ ⟨rfl, rfl⟩ ⟨Nat.le_of_ble_eq_true rfl, rfl, rfl⟩ fl_X6_15 (x := x15) ⟨rfl, rfl⟩ dX6_append_61 (fun _ locs hH hS _ => ?_)
          have hH : Hd D tA b 0 78 zz (up2 i 4 1 x15) (va_up (va_up (va_up F 5 (upd (F 5) (Int32.toNatClampNeg 0) (Int8.toInt32 (Int32.toInt8 ((nI (bt w 0)).toInt8.toInt32))))) 5 (upd (upd (F 5) (Int32.toNatClampNeg 0) (Int8.toInt32 (Int32.toInt8 ((nI (bt w 0)).toInt8.toInt32)))) (Int32.toNatClampNeg 1) (Int8.toInt32 (Int32.toInt8 ((nI (bt w 1)).toInt8.toInt32))))) 5 (upd (upd (upd (F 5) (Int32.toNatClampNeg 0) (Int8.toInt32 (Int32.toInt8 ((nI (bt w 0)).toInt8.toInt32)))) (Int32.toNatClampNeg 1) (Int8.toInt32 (Int32.toInt8 ((nI (bt w 1)).toInt8.toInt32)))) (Int32.toNatClampNeg 2) (Int8.toInt32 (Int32.toInt8 ((nI (bt w 2)).toInt8.toInt32))))) G _ := hH
          refine lv_aload_n (pc := 64) C0.1 C0.2.1 dX6_append_64 rfl (lv_at hl 2 rfl) ?_
          refine xget (pc := 65) C0 hH 4 1 clX6 ⟨Nat.le_of_ble_eq_true rfl, Nat.le_of_ble_eq_true rfl⟩ ⟨rfl, rfl⟩ (Nat.le_of_ble_eq_true rfl) fl_X6_15 (v := .int x15) rfl dX6_append_65 ?_
          exact xiret (pc := 68) C0 hr hH hS dX6_append_68 (by subst_vars; exact Int32.zero_add _)
        · have c14 := lt_nI (a := zl w) (b := 3) (zl_lb _) (by decide) c14
          refine lv_aload_n (pc := 29) C0.1 C0.2.1 dX6_append_29 rfl (lv_at hl 2 rfl) ?_
          refine xget (pc := 30) C0 hH 4 0 clX6 ⟨Nat.le_of_ble_eq_true rfl, Nat.le_of_ble_eq_true rfl⟩ ⟨rfl, rfl⟩ (Nat.le_of_ble_eq_true rfl) fl_X6_9 (v := .ref (b + 5)) rfl dX6_append_30 ?_
          refine lv_aload_n (pc := 33) C0.1 C0.2.1 dX6_append_33 rfl (lv_at hl 2 rfl) ?_
          refine xget (pc := 34) C0 hH 4 1 clX6 ⟨Nat.le_of_ble_eq_true rfl, Nat.le_of_ble_eq_true rfl⟩ ⟨rfl, rfl⟩ (Nat.le_of_ble_eq_true rfl) fl_X6_15 (v := .int 0) (congrArg Value.int hi_4_1) dX6_append_34 ?_
          refine lv_iload (pc := 37) C0.1 C0.2.1 dX6_append_37 (lv_at hl 0 rfl) ?_
          refine lv_iadd (pc := 39) C0.1 C0.2.1 dX6_append_39 ?_
          refine lv_topi (fun q16 eq16 => ?_)
          obtain rfl : q16 = 3 := eq16.trans (by decide)
          refine lv_lload_n (pc := 40) C0.1 C0.2.1 dX6_append_40 rfl (lv_at hl 3 rfl) ?_
          refine lv_iload (pc := 41) C0.1 C0.2.1 dX6_append_41 (lv_at hl 0 rfl) ?_
          refine xcNI (pc := 43) [.long w, .int 3] (c_X9_byteOf l D tA b 0 78 i (va_up (va_up (va_up F 5 (upd (F 5) (Int32.toNatClampNeg 0) (Int8.toInt32 (Int32.toInt8 ((nI (bt w 0)).toInt8.toInt32))))) 5 (upd (upd (F 5) (Int32.toNatClampNeg 0) (Int8.toInt32 (Int32.toInt8 ((nI (bt w 0)).toInt8.toInt32)))) (Int32.toNatClampNeg 1) (Int8.toInt32 (Int32.toInt8 ((nI (bt w 1)).toInt8.toInt32))))) 5 (upd (upd (upd (F 5) (Int32.toNatClampNeg 0) (Int8.toInt32 (Int32.toInt8 ((nI (bt w 0)).toInt8.toInt32)))) (Int32.toNatClampNeg 1) (Int8.toInt32 (Int32.toInt8 ((nI (bt w 1)).toInt8.toInt32)))) (Int32.toNatClampNeg 2) (Int8.toInt32 (Int32.toInt8 ((nI (bt w 2)).toInt8.toInt32))))) G w 3 (by decide)) C0 hH hS cw_X6_23 st_X9_byteOf rfl ⟨Nat.le_of_ble_eq_true rfl, Nat.le_of_ble_eq_true rfl⟩ hl.1 rfl (Nat.le_of_ble_eq_true rfl) dX6_append_43 ⟨Nat.le_of_ble_eq_true rfl, Nat.le_of_ble_eq_true rfl⟩ (fun r17 ir17 Fr17 Gr17 _ locs hp hH hS => ?_)
          obtain ⟨hu, rfl⟩ := hp
          cases hu
          refine lv_i2b (pc := 46) (v := (nI (bt w 3)).toInt8.toInt32) C0.1 C0.2.1 dX6_append_46 rfl ?_
          refine xbast (pc := 47) (N := 600) C0 (Nat.le_of_ble_eq_true rfl) hH hS 5 ⟨Nat.le_of_ble_eq_true rfl, Nat.le_of_ble_eq_true rfl⟩ ⟨rfl, rfl⟩ (vin (by decide)) dX6_append_47 (fun _ locs hH hS => ?_)
          have hH : Hd D tA b 0 78 zz i (va_up (va_up (va_up (va_up F 5 (upd (F 5) (Int32.toNatClampNeg 0) (Int8.toInt32 (Int32.toInt8 ((nI (bt w 0)).toInt8.toInt32))))) 5 (upd (upd (F 5) (Int32.toNatClampNeg 0) (Int8.toInt32 (Int32.toInt8 ((nI (bt w 0)).toInt8.toInt32)))) (Int32.toNatClampNeg 1) (Int8.toInt32 (Int32.toInt8 ((nI (bt w 1)).toInt8.toInt32))))) 5 (upd (upd (upd (F 5) (Int32.toNatClampNeg 0) (Int8.toInt32 (Int32.toInt8 ((nI (bt w 0)).toInt8.toInt32)))) (Int32.toNatClampNeg 1) (Int8.toInt32 (Int32.toInt8 ((nI (bt w 1)).toInt8.toInt32)))) (Int32.toNatClampNeg 2) (Int8.toInt32 (Int32.toInt8 ((nI (bt w 2)).toInt8.toInt32))))) 5 (upd (upd (upd (upd (F 5) (Int32.toNatClampNeg 0) (Int8.toInt32 (Int32.toInt8 ((nI (bt w 0)).toInt8.toInt32)))) (Int32.toNatClampNeg 1) (Int8.toInt32 (Int32.toInt8 ((nI (bt w 1)).toInt8.toInt32)))) (Int32.toNatClampNeg 2) (Int8.toInt32 (Int32.toInt8 ((nI (bt w 2)).toInt8.toInt32)))) (Int32.toNatClampNeg 3) (Int8.toInt32 (Int32.toInt8 ((nI (bt w 3)).toInt8.toInt32))))) G _ := hH
          refine lv_iinc (pc := 48) (v := 4) (lv' := [(4, .int 4), (3, .int (nI (zl w))), (0, .ref (b + 4)), (1, .long w)]) C0.1 C0.2.1 dX6_append_48 hl (k := 0) rfl (by decide) (by decide) rfl (fun ls hl => ?_)
          refine lv_goto (pc := 51) (tgt := 23) C0.1 C0.2.1 dX6_append_51 (by decide) ?_
          refine lv_iload (pc := 23) C0.1 C0.2.1 dX6_append_23 (lv_at hl 0 rfl) ?_
          refine lv_iload_n (pc := 25) C0.1 C0.2.1 dX6_append_25 rfl (lv_at hl 1 rfl) ?_
          refine lv_icmp_ge (pc := 26) (tgt := 54) C0.1 C0.2.1 dX6_append_26 (by decide) (fun c18 => ?_) (fun c18 => ?_)
          · have c18 := le_nI (a := zl w) (b := 4) (zl_lb _) (by decide) c18
            refine lv_aload_n (pc := 54) C0.1 C0.2.1 dX6_append_54 rfl (lv_at hl 2 rfl) ?_
            refine lv_dup (pc := 55) C0.1 C0.2.1 dX6_append_55 rfl ?_
            refine xget (pc := 56) C0 hH 4 1 clX6 ⟨Nat.le_of_ble_eq_true rfl, Nat.le_of_ble_eq_true rfl⟩ ⟨rfl, rfl⟩ (Nat.le_of_ble_eq_true rfl) fl_X6_15 (v := .int 0) (congrArg Value.int hi_4_1) dX6_append_56 ?_
            refine lv_iload_n (pc := 59) C0.1 C0.2.1 dX6_append_59 rfl (lv_at hl 1 rfl) ?_
            refine lv_iadd (pc := 60) C0.1 C0.2.1 dX6_append_60 ?_
            refine lv_topi (fun x19 ex19 => ?_)
            refine xputI (pc := 61) C0 (Nat.le_of_ble_eq_true rfl) hH hS 4 1 clX6 ⟨Nat.le_of_ble_eq_true rfl, Nat.le_of_ble_eq_true rfl⟩ ⟨rfl, rfl⟩ ⟨Nat.le_of_ble_eq_true rfl, rfl, rfl⟩ fl_X6_15 (x := x19) ⟨rfl, rfl⟩ dX6_append_61 (fun _ locs hH hS _ => ?_)
            have hH : Hd D tA b 0 78 zz (up2 i 4 1 x19) (va_up (va_up (va_up (va_up F 5 (upd (F 5) (Int32.toNatClampNeg 0) (Int8.toInt32 (Int32.toInt8 ((nI (bt w 0)).toInt8.toInt32))))) 5 (upd (upd (F 5) (Int32.toNatClampNeg 0) (Int8.toInt32 (Int32.toInt8 ((nI (bt w 0)).toInt8.toInt32)))) (Int32.toNatClampNeg 1) (Int8.toInt32 (Int32.toInt8 ((nI (bt w 1)).toInt8.toInt32))))) 5 (upd (upd (upd (F 5) (Int32.toNatClampNeg 0) (Int8.toInt32 (Int32.toInt8 ((nI (bt w 0)).toInt8.toInt32)))) (Int32.toNatClampNeg 1) (Int8.toInt32 (Int32.toInt8 ((nI (bt w 1)).toInt8.toInt32)))) (Int32.toNatClampNeg 2) (Int8.toInt32 (Int32.toInt8 ((nI (bt w 2)).toInt8.toInt32))))) 5 (upd (upd (upd (upd (F 5) (Int32.toNatClampNeg 0) (Int8.toInt32 (Int32.toInt8 ((nI (bt w 0)).toInt8.toInt32)))) (Int32.toNatClampNeg 1) (Int8.toInt32 (Int32.toInt8 ((nI (bt w 1)).toInt8.toInt32)))) (Int32.toNatClampNeg 2) (Int8.toInt32 (Int32.toInt8 ((nI (bt w 2)).toInt8.toInt32)))) (Int32.toNatClampNeg 3) (Int8.toInt32 (Int32.toInt8 ((nI (bt w 3)).toInt8.toInt32))))) G _ := hH
            refine lv_aload_n (pc := 64) C0.1 C0.2.1 dX6_append_64 rfl (lv_at hl 2 rfl) ?_
            refine xget (pc := 65) C0 hH 4 1 clX6 ⟨Nat.le_of_ble_eq_true rfl, Nat.le_of_ble_eq_true rfl⟩ ⟨rfl, rfl⟩ (Nat.le_of_ble_eq_true rfl) fl_X6_15 (v := .int x19) rfl dX6_append_65 ?_
            exact xiret (pc := 68) C0 hr hH hS dX6_append_68 (by subst_vars; exact Int32.zero_add _)
          · have c18 := lt_nI (a := zl w) (b := 4) (zl_lb _) (by decide) c18
            refine lv_aload_n (pc := 29) C0.1 C0.2.1 dX6_append_29 rfl (lv_at hl 2 rfl) ?_
            refine xget (pc := 30) C0 hH 4 0 clX6 ⟨Nat.le_of_ble_eq_true rfl, Nat.le_of_ble_eq_true rfl⟩ ⟨rfl, rfl⟩ (Nat.le_of_ble_eq_true rfl) fl_X6_9 (v := .ref (b + 5)) rfl dX6_append_30 ?_
            refine lv_aload_n (pc := 33) C0.1 C0.2.1 dX6_append_33 rfl (lv_at hl 2 rfl) ?_
            refine xget (pc := 34) C0 hH 4 1 clX6 ⟨Nat.le_of_ble_eq_true rfl, Nat.le_of_ble_eq_true rfl⟩ ⟨rfl, rfl⟩ (Nat.le_of_ble_eq_true rfl) fl_X6_15 (v := .int 0) (congrArg Value.int hi_4_1) dX6_append_34 ?_
            refine lv_iload (pc := 37) C0.1 C0.2.1 dX6_append_37 (lv_at hl 0 rfl) ?_
            refine lv_iadd (pc := 39) C0.1 C0.2.1 dX6_append_39 ?_
            refine lv_topi (fun q20 eq20 => ?_)
            obtain rfl : q20 = 4 := eq20.trans (by decide)
            refine lv_lload_n (pc := 40) C0.1 C0.2.1 dX6_append_40 rfl (lv_at hl 3 rfl) ?_
            refine lv_iload (pc := 41) C0.1 C0.2.1 dX6_append_41 (lv_at hl 0 rfl) ?_
            refine xcNI (pc := 43) [.long w, .int 4] (c_X9_byteOf l D tA b 0 78 i (va_up (va_up (va_up (va_up F 5 (upd (F 5) (Int32.toNatClampNeg 0) (Int8.toInt32 (Int32.toInt8 ((nI (bt w 0)).toInt8.toInt32))))) 5 (upd (upd (F 5) (Int32.toNatClampNeg 0) (Int8.toInt32 (Int32.toInt8 ((nI (bt w 0)).toInt8.toInt32)))) (Int32.toNatClampNeg 1) (Int8.toInt32 (Int32.toInt8 ((nI (bt w 1)).toInt8.toInt32))))) 5 (upd (upd (upd (F 5) (Int32.toNatClampNeg 0) (Int8.toInt32 (Int32.toInt8 ((nI (bt w 0)).toInt8.toInt32)))) (Int32.toNatClampNeg 1) (Int8.toInt32 (Int32.toInt8 ((nI (bt w 1)).toInt8.toInt32)))) (Int32.toNatClampNeg 2) (Int8.toInt32 (Int32.toInt8 ((nI (bt w 2)).toInt8.toInt32))))) 5 (upd (upd (upd (upd (F 5) (Int32.toNatClampNeg 0) (Int8.toInt32 (Int32.toInt8 ((nI (bt w 0)).toInt8.toInt32)))) (Int32.toNatClampNeg 1) (Int8.toInt32 (Int32.toInt8 ((nI (bt w 1)).toInt8.toInt32)))) (Int32.toNatClampNeg 2) (Int8.toInt32 (Int32.toInt8 ((nI (bt w 2)).toInt8.toInt32)))) (Int32.toNatClampNeg 3) (Int8.toInt32 (Int32.toInt8 ((nI (bt w 3)).toInt8.toInt32))))) G w 4 (by decide)) C0 hH hS cw_X6_23 st_X9_byteOf rfl ⟨Nat.le_of_ble_eq_true rfl, Nat.le_of_ble_eq_true rfl⟩ hl.1 rfl (Nat.le_of_ble_eq_true rfl) dX6_append_43 ⟨Nat.le_of_ble_eq_true rfl, Nat.le_of_ble_eq_true rfl⟩ (fun r21 ir21 Fr21 Gr21 _ locs hp hH hS => ?_)
            obtain ⟨hu, rfl⟩ := hp
            cases hu
            refine lv_i2b (pc := 46) (v := (nI (bt w 4)).toInt8.toInt32) C0.1 C0.2.1 dX6_append_46 rfl ?_
            refine xbast (pc := 47) (N := 600) C0 (Nat.le_of_ble_eq_true rfl) hH hS 5 ⟨Nat.le_of_ble_eq_true rfl, Nat.le_of_ble_eq_true rfl⟩ ⟨rfl, rfl⟩ (vin (by decide)) dX6_append_47 (fun _ locs hH hS => ?_)
            have hH : Hd D tA b 0 78 zz i (va_up (va_up (va_up (va_up (va_up F 5 (upd (F 5) (Int32.toNatClampNeg 0) (Int8.toInt32 (Int32.toInt8 ((nI (bt w 0)).toInt8.toInt32))))) 5 (upd (upd (F 5) (Int32.toNatClampNeg 0) (Int8.toInt32 (Int32.toInt8 ((nI (bt w 0)).toInt8.toInt32)))) (Int32.toNatClampNeg 1) (Int8.toInt32 (Int32.toInt8 ((nI (bt w 1)).toInt8.toInt32))))) 5 (upd (upd (upd (F 5) (Int32.toNatClampNeg 0) (Int8.toInt32 (Int32.toInt8 ((nI (bt w 0)).toInt8.toInt32)))) (Int32.toNatClampNeg 1) (Int8.toInt32 (Int32.toInt8 ((nI (bt w 1)).toInt8.toInt32)))) (Int32.toNatClampNeg 2) (Int8.toInt32 (Int32.toInt8 ((nI (bt w 2)).toInt8.toInt32))))) 5 (upd (upd (upd (upd (F 5) (Int32.toNatClampNeg 0) (Int8.toInt32 (Int32.toInt8 ((nI (bt w 0)).toInt8.toInt32)))) (Int32.toNatClampNeg 1) (Int8.toInt32 (Int32.toInt8 ((nI (bt w 1)).toInt8.toInt32)))) (Int32.toNatClampNeg 2) (Int8.toInt32 (Int32.toInt8 ((nI (bt w 2)).toInt8.toInt32)))) (Int32.toNatClampNeg 3) (Int8.toInt32 (Int32.toInt8 ((nI (bt w 3)).toInt8.toInt32))))) 5 (upd (upd (upd (upd (upd (F 5) (Int32.toNatClampNeg 0) (Int8.toInt32 (Int32.toInt8 ((nI (bt w 0)).toInt8.toInt32)))) (Int32.toNatClampNeg 1) (Int8.toInt32 (Int32.toInt8 ((nI (bt w 1)).toInt8.toInt32)))) (Int32.toNatClampNeg 2) (Int8.toInt32 (Int32.toInt8 ((nI (bt w 2)).toInt8.toInt32)))) (Int32.toNatClampNeg 3) (Int8.toInt32 (Int32.toInt8 ((nI (bt w 3)).toInt8.toInt32)))) (Int32.toNatClampNeg 4) (Int8.toInt32 (Int32.toInt8 ((nI (bt w 4)).toInt8.toInt32))))) G _ := hH
            refine lv_iinc (pc := 48) (v := 5) (lv' := [(4, .int 5), (3, .int (nI (zl w))), (0, .ref (b + 4)), (1, .long w)]) C0.1 C0.2.1 dX6_append_48 hl (k := 0) rfl (by decide) (by decide) rfl (fun ls hl => ?_)
            refine lv_goto (pc := 51) (tgt := 23) C0.1 C0.2.1 dX6_append_51 (by decide) ?_
            refine lv_iload (pc := 23) C0.1 C0.2.1 dX6_append_23 (lv_at hl 0 rfl) ?_
            refine lv_iload_n (pc := 25) C0.1 C0.2.1 dX6_append_25 rfl (lv_at hl 1 rfl) ?_
            refine lv_icmp_ge (pc := 26) (tgt := 54) C0.1 C0.2.1 dX6_append_26 (by decide) (fun c22 => ?_) (fun c22 => ?_)
            · have c22 := le_nI (a := zl w) (b := 5) (zl_lb _) (by decide) c22
              refine lv_aload_n (pc := 54) C0.1 C0.2.1 dX6_append_54 rfl (lv_at hl 2 rfl) ?_
              refine lv_dup (pc := 55) C0.1 C0.2.1 dX6_append_55 rfl ?_
              refine xget (pc := 56) C0 hH 4 1 clX6 ⟨Nat.le_of_ble_eq_true rfl, Nat.le_of_ble_eq_true rfl⟩ ⟨rfl, rfl⟩ (Nat.le_of_ble_eq_true rfl) fl_X6_15 (v := .int 0) (congrArg Value.int hi_4_1) dX6_append_56 ?_
              refine lv_iload_n (pc := 59) C0.1 C0.2.1 dX6_append_59 rfl (lv_at hl 1 rfl) ?_
              refine lv_iadd (pc := 60) C0.1 C0.2.1 dX6_append_60 ?_
              refine lv_topi (fun x23 ex23 => ?_)
              refine xputI (pc := 61) C0 (Nat.le_of_ble_eq_true rfl) hH hS 4 1 clX6 ⟨Nat.le_of_ble_eq_true rfl, Nat.le_of_ble_eq_true rfl⟩ ⟨rfl, rfl⟩ ⟨Nat.le_of_ble_eq_true rfl, rfl, rfl⟩ fl_X6_15 (x := x23) ⟨rfl, rfl⟩ dX6_append_61 (fun _ locs hH hS _ => ?_)
              have hH : Hd D tA b 0 78 zz (up2 i 4 1 x23) (va_up (va_up (va_up (va_up (va_up F 5 (upd (F 5) (Int32.toNatClampNeg 0) (Int8.toInt32 (Int32.toInt8 ((nI (bt w 0)).toInt8.toInt32))))) 5 (upd (upd (F 5) (Int32.toNatClampNeg 0) (Int8.toInt32 (Int32.toInt8 ((nI (bt w 0)).toInt8.toInt32)))) (Int32.toNatClampNeg 1) (Int8.toInt32 (Int32.toInt8 ((nI (bt w 1)).toInt8.toInt32))))) 5 (upd (upd (upd (F 5) (Int32.toNatClampNeg 0) (Int8.toInt32 (Int32.toInt8 ((nI (bt w 0)).toInt8.toInt32)))) (Int32.toNatClampNeg 1) (Int8.toInt32 (Int32.toInt8 ((nI (bt w 1)).toInt8.toInt32)))) (Int32.toNatClampNeg 2) (Int8.toInt32 (Int32.toInt8 ((nI (bt w 2)).toInt8.toInt32))))) 5 (upd (upd (upd (upd (F 5) (Int32.toNatClampNeg 0) (Int8.toInt32 (Int32.toInt8 ((nI (bt w 0)).toInt8.toInt32)))) (Int32.toNatClampNeg 1) (Int8.toInt32 (Int32.toInt8 ((nI (bt w 1)).toInt8.toInt32)))) (Int32.toNatClampNeg 2) (Int8.toInt32 (Int32.toInt8 ((nI (bt w 2)).toInt8.toInt32)))) (Int32.toNatClampNeg 3) (Int8.toInt32 (Int32.toInt8 ((nI (bt w 3)).toInt8.toInt32))))) 5 (upd (upd (upd (upd (upd (F 5) (Int32.toNatClampNeg 0) (Int8.toInt32 (Int32.toInt8 ((nI (bt w 0)).toInt8.toInt32)))) (Int32.toNatClampNeg 1) (Int8.toInt32 (Int32.toInt8 ((nI (bt w 1)).toInt8.toInt32)))) (Int32.toNatClampNeg 2) (Int8.toInt32 (Int32.toInt8 ((nI (bt w 2)).toInt8.toInt32)))) (Int32.toNatClampNeg 3) (Int8.toInt32 (Int32.toInt8 ((nI (bt w 3)).toInt8.toInt32)))) (Int32.toNatClampNeg 4) (Int8.toInt32 (Int32.toInt8 ((nI (bt w 4)).toInt8.toInt32))))) G _ := hH
              refine lv_aload_n (pc := 64) C0.1 C0.2.1 dX6_append_64 rfl (lv_at hl 2 rfl) ?_
              refine xget (pc := 65) C0 hH 4 1 clX6 ⟨Nat.le_of_ble_eq_true rfl, Nat.le_of_ble_eq_true rfl⟩ ⟨rfl, rfl⟩ (Nat.le_of_ble_eq_true rfl) fl_X6_15 (v := .int x23) rfl dX6_append_65 ?_
              exact xiret (pc := 68) C0 hr hH hS dX6_append_68 (by subst_vars; exact Int32.zero_add _)
            · have c22 := lt_nI (a := zl w) (b := 5) (zl_lb _) (by decide) c22
              refine lv_aload_n (pc := 29) C0.1 C0.2.1 dX6_append_29 rfl (lv_at hl 2 rfl) ?_
              refine xget (pc := 30) C0 hH 4 0 clX6 ⟨Nat.le_of_ble_eq_true rfl, Nat.le_of_ble_eq_true rfl⟩ ⟨rfl, rfl⟩ (Nat.le_of_ble_eq_true rfl) fl_X6_9 (v := .ref (b + 5)) rfl dX6_append_30 ?_
              refine lv_aload_n (pc := 33) C0.1 C0.2.1 dX6_append_33 rfl (lv_at hl 2 rfl) ?_
              refine xget (pc := 34) C0 hH 4 1 clX6 ⟨Nat.le_of_ble_eq_true rfl, Nat.le_of_ble_eq_true rfl⟩ ⟨rfl, rfl⟩ (Nat.le_of_ble_eq_true rfl) fl_X6_15 (v := .int 0) (congrArg Value.int hi_4_1) dX6_append_34 ?_
              refine lv_iload (pc := 37) C0.1 C0.2.1 dX6_append_37 (lv_at hl 0 rfl) ?_
              refine lv_iadd (pc := 39) C0.1 C0.2.1 dX6_append_39 ?_
              refine lv_topi (fun q24 eq24 => ?_)
              obtain rfl : q24 = 5 := eq24.trans (by decide)
              refine lv_lload_n (pc := 40) C0.1 C0.2.1 dX6_append_40 rfl (lv_at hl 3 rfl) ?_
              refine lv_iload (pc := 41) C0.1 C0.2.1 dX6_append_41 (lv_at hl 0 rfl) ?_
              refine xcNI (pc := 43) [.long w, .int 5] (c_X9_byteOf l D tA b 0 78 i (va_up (va_up (va_up (va_up (va_up F 5 (upd (F 5) (Int32.toNatClampNeg 0) (Int8.toInt32 (Int32.toInt8 ((nI (bt w 0)).toInt8.toInt32))))) 5 (upd (upd (F 5) (Int32.toNatClampNeg 0) (Int8.toInt32 (Int32.toInt8 ((nI (bt w 0)).toInt8.toInt32)))) (Int32.toNatClampNeg 1) (Int8.toInt32 (Int32.toInt8 ((nI (bt w 1)).toInt8.toInt32))))) 5 (upd (upd (upd (F 5) (Int32.toNatClampNeg 0) (Int8.toInt32 (Int32.toInt8 ((nI (bt w 0)).toInt8.toInt32)))) (Int32.toNatClampNeg 1) (Int8.toInt32 (Int32.toInt8 ((nI (bt w 1)).toInt8.toInt32)))) (Int32.toNatClampNeg 2) (Int8.toInt32 (Int32.toInt8 ((nI (bt w 2)).toInt8.toInt32))))) 5 (upd (upd (upd (upd (F 5) (Int32.toNatClampNeg 0) (Int8.toInt32 (Int32.toInt8 ((nI (bt w 0)).toInt8.toInt32)))) (Int32.toNatClampNeg 1) (Int8.toInt32 (Int32.toInt8 ((nI (bt w 1)).toInt8.toInt32)))) (Int32.toNatClampNeg 2) (Int8.toInt32 (Int32.toInt8 ((nI (bt w 2)).toInt8.toInt32)))) (Int32.toNatClampNeg 3) (Int8.toInt32 (Int32.toInt8 ((nI (bt w 3)).toInt8.toInt32))))) 5 (upd (upd (upd (upd (upd (F 5) (Int32.toNatClampNeg 0) (Int8.toInt32 (Int32.toInt8 ((nI (bt w 0)).toInt8.toInt32)))) (Int32.toNatClampNeg 1) (Int8.toInt32 (Int32.toInt8 ((nI (bt w 1)).toInt8.toInt32)))) (Int32.toNatClampNeg 2) (Int8.toInt32 (Int32.toInt8 ((nI (bt w 2)).toInt8.toInt32)))) (Int32.toNatClampNeg 3) (Int8.toInt32 (Int32.toInt8 ((nI (bt w 3)).toInt8.toInt32)))) (Int32.toNatClampNeg 4) (Int8.toInt32 (Int32.toInt8 ((nI (bt w 4)).toInt8.toInt32))))) G w 5 (by decide)) C0 hH hS cw_X6_23 st_X9_byteOf rfl ⟨Nat.le_of_ble_eq_true rfl, Nat.le_of_ble_eq_true rfl⟩ hl.1 rfl (Nat.le_of_ble_eq_true rfl) dX6_append_43 ⟨Nat.le_of_ble_eq_true rfl, Nat.le_of_ble_eq_true rfl⟩ (fun r25 ir25 Fr25 Gr25 _ locs hp hH hS => ?_)
              obtain ⟨hu, rfl⟩ := hp
              cases hu
              refine lv_i2b (pc := 46) (v := (nI (bt w 5)).toInt8.toInt32) C0.1 C0.2.1 dX6_append_46 rfl ?_
              refine xbast (pc := 47) (N := 600) C0 (Nat.le_of_ble_eq_true rfl) hH hS 5 ⟨Nat.le_of_ble_eq_true rfl, Nat.le_of_ble_eq_true rfl⟩ ⟨rfl, rfl⟩ (vin (by decide)) dX6_append_47 (fun _ locs hH hS => ?_)
              have hH : Hd D tA b 0 78 zz i (va_up (va_up (va_up (va_up (va_up (va_up F 5 (upd (F 5) (Int32.toNatClampNeg 0) (Int8.toInt32 (Int32.toInt8 ((nI (bt w 0)).toInt8.toInt32))))) 5 (upd (upd (F 5) (Int32.toNatClampNeg 0) (Int8.toInt32 (Int32.toInt8 ((nI (bt w 0)).toInt8.toInt32)))) (Int32.toNatClampNeg 1) (Int8.toInt32 (Int32.toInt8 ((nI (bt w 1)).toInt8.toInt32))))) 5 (upd (upd (upd (F 5) (Int32.toNatClampNeg 0) (Int8.toInt32 (Int32.toInt8 ((nI (bt w 0)).toInt8.toInt32)))) (Int32.toNatClampNeg 1) (Int8.toInt32 (Int32.toInt8 ((nI (bt w 1)).toInt8.toInt32)))) (Int32.toNatClampNeg 2) (Int8.toInt32 (Int32.toInt8 ((nI (bt w 2)).toInt8.toInt32))))) 5 (upd (upd (upd (upd (F 5) (Int32.toNatClampNeg 0) (Int8.toInt32 (Int32.toInt8 ((nI (bt w 0)).toInt8.toInt32)))) (Int32.toNatClampNeg 1) (Int8.toInt32 (Int32.toInt8 ((nI (bt w 1)).toInt8.toInt32)))) (Int32.toNatClampNeg 2) (Int8.toInt32 (Int32.toInt8 ((nI (bt w 2)).toInt8.toInt32)))) (Int32.toNatClampNeg 3) (Int8.toInt32 (Int32.toInt8 ((nI (bt w 3)).toInt8.toInt32))))) 5 (upd (upd (upd (upd (upd (F 5) (Int32.toNatClampNeg 0) (Int8.toInt32 (Int32.toInt8 ((nI (bt w 0)).toInt8.toInt32)))) (Int32.toNatClampNeg 1) (Int8.toInt32 (Int32.toInt8 ((nI (bt w 1)).toInt8.toInt32)))) (Int32.toNatClampNeg 2) (Int8.toInt32 (Int32.toInt8 ((nI (bt w 2)).toInt8.toInt32)))) (Int32.toNatClampNeg 3) (Int8.toInt32 (Int32.toInt8 ((nI (bt w 3)).toInt8.toInt32)))) (Int32.toNatClampNeg 4) (Int8.toInt32 (Int32.toInt8 ((nI (bt w 4)).toInt8.toInt32))))) 5 (upd (upd (upd (upd (upd (upd (F 5) (Int32.toNatClampNeg 0) (Int8.toInt32 (Int32.toInt8 ((nI (bt w 0)).toInt8.toInt32)))) (Int32.toNatClampNeg 1) (Int8.toInt32 (Int32.toInt8 ((nI (bt w 1)).toInt8.toInt32)))) (Int32.toNatClampNeg 2) (Int8.toInt32 (Int32.toInt8 ((nI (bt w 2)).toInt8.toInt32)))) (Int32.toNatClampNeg 3) (Int8.toInt32 (Int32.toInt8 ((nI (bt w 3)).toInt8.toInt32)))) (Int32.toNatClampNeg 4) (Int8.toInt32 (Int32.toInt8 ((nI (bt w 4)).toInt8.toInt32)))) (Int32.toNatClampNeg 5) (Int8.toInt32 (Int32.toInt8 ((nI (bt w 5)).toInt8.toInt32))))) G _ := hH
              refine lv_iinc (pc := 48) (v := 6) (lv' := [(4, .int 6), (3, .int (nI (zl w))), (0, .ref (b + 4)), (1, .long w)]) C0.1 C0.2.1 dX6_append_48 hl (k := 0) rfl (by decide) (by decide) rfl (fun ls hl => ?_)
              refine lv_goto (pc := 51) (tgt := 23) C0.1 C0.2.1 dX6_append_51 (by decide) ?_
              refine lv_iload (pc := 23) C0.1 C0.2.1 dX6_append_23 (lv_at hl 0 rfl) ?_
              refine lv_iload_n (pc := 25) C0.1 C0.2.1 dX6_append_25 rfl (lv_at hl 1 rfl) ?_
              refine lv_icmp_ge (pc := 26) (tgt := 54) C0.1 C0.2.1 dX6_append_26 (by decide) (fun c26 => ?_) (fun c26 => ?_)
              · have c26 := le_nI (a := zl w) (b := 6) (zl_lb _) (by decide) c26
                refine lv_aload_n (pc := 54) C0.1 C0.2.1 dX6_append_54 rfl (lv_at hl 2 rfl) ?_
                refine lv_dup (pc := 55) C0.1 C0.2.1 dX6_append_55 rfl ?_
                refine xget (pc := 56) C0 hH 4 1 clX6 ⟨Nat.le_of_ble_eq_true rfl, Nat.le_of_ble_eq_true rfl⟩ ⟨rfl, rfl⟩ (Nat.le_of_ble_eq_true rfl) fl_X6_15 (v := .int 0) (congrArg Value.int hi_4_1) dX6_append_56 ?_
                refine lv_iload_n (pc := 59) C0.1 C0.2.1 dX6_append_59 rfl (lv_at hl 1 rfl) ?_
                refine lv_iadd (pc := 60) C0.1 C0.2.1 dX6_append_60 ?_
                refine lv_topi (fun x27 ex27 => ?_)
                refine xputI (pc := 61) C0 (Nat.le_of_ble_eq_true rfl) hH hS 4 1 clX6 ⟨Nat.le_of_ble_eq_true rfl, Nat.le_of_ble_eq_true rfl⟩ ⟨rfl, rfl⟩ ⟨Nat.le_of_ble_eq_true rfl, rfl, rfl⟩ fl_X6_15 (x := x27) ⟨rfl, rfl⟩ dX6_append_61 (fun _ locs hH hS _ => ?_)
                have hH : Hd D tA b 0 78 zz (up2 i 4 1 x27) (va_up (va_up (va_up (va_up (va_up (va_up F 5 (upd (F 5) (Int32.toNatClampNeg 0) (Int8.toInt32 (Int32.toInt8 ((nI (bt w 0)).toInt8.toInt32))))) 5 (upd (upd (F 5) (Int32.toNatClampNeg 0) (Int8.toInt32 (Int32.toInt8 ((nI (bt w 0)).toInt8.toInt32)))) (Int32.toNatClampNeg 1) (Int8.toInt32 (Int32.toInt8 ((nI (bt w 1)).toInt8.toInt32))))) 5 (upd (upd (upd (F 5) (Int32.toNatClampNeg 0) (Int8.toInt32 (Int32.toInt8 ((nI (bt w 0)).toInt8.toInt32)))) (Int32.toNatClampNeg 1) (Int8.toInt32 (Int32.toInt8 ((nI (bt w 1)).toInt8.toInt32)))) (Int32.toNatClampNeg 2) (Int8.toInt32 (Int32.toInt8 ((nI (bt w 2)).toInt8.toInt32))))) 5 (upd (upd (upd (upd (F 5) (Int32.toNatClampNeg 0) (Int8.toInt32 (Int32.toInt8 ((nI (bt w 0)).toInt8.toInt32)))) (Int32.toNatClampNeg 1) (Int8.toInt32 (Int32.toInt8 ((nI (bt w 1)).toInt8.toInt32)))) (Int32.toNatClampNeg 2) (Int8.toInt32 (Int32.toInt8 ((nI (bt w 2)).toInt8.toInt32)))) (Int32.toNatClampNeg 3) (Int8.toInt32 (Int32.toInt8 ((nI (bt w 3)).toInt8.toInt32))))) 5 (upd (upd (upd (upd (upd (F 5) (Int32.toNatClampNeg 0) (Int8.toInt32 (Int32.toInt8 ((nI (bt w 0)).toInt8.toInt32)))) (Int32.toNatClampNeg 1) (Int8.toInt32 (Int32.toInt8 ((nI (bt w 1)).toInt8.toInt32)))) (Int32.toNatClampNeg 2) (Int8.toInt32 (Int32.toInt8 ((nI (bt w 2)).toInt8.toInt32)))) (Int32.toNatClampNeg 3) (Int8.toInt32 (Int32.toInt8 ((nI (bt w 3)).toInt8.toInt32)))) (Int32.toNatClampNeg 4) (Int8.toInt32 (Int32.toInt8 ((nI (bt w 4)).toInt8.toInt32))))) 5 (upd (upd (upd (upd (upd (upd (F 5) (Int32.toNatClampNeg 0) (Int8.toInt32 (Int32.toInt8 ((nI (bt w 0)).toInt8.toInt32)))) (Int32.toNatClampNeg 1) (Int8.toInt32 (Int32.toInt8 ((nI (bt w 1)).toInt8.toInt32)))) (Int32.toNatClampNeg 2) (Int8.toInt32 (Int32.toInt8 ((nI (bt w 2)).toInt8.toInt32)))) (Int32.toNatClampNeg 3) (Int8.toInt32 (Int32.toInt8 ((nI (bt w 3)).toInt8.toInt32)))) (Int32.toNatClampNeg 4) (Int8.toInt32 (Int32.toInt8 ((nI (bt w 4)).toInt8.toInt32)))) (Int32.toNatClampNeg 5) (Int8.toInt32 (Int32.toInt8 ((nI (bt w 5)).toInt8.toInt32))))) G _ := hH
                refine lv_aload_n (pc := 64) C0.1 C0.2.1 dX6_append_64 rfl (lv_at hl 2 rfl) ?_
                refine xget (pc := 65) C0 hH 4 1 clX6 ⟨Nat.le_of_ble_eq_true rfl, Nat.le_of_ble_eq_true rfl⟩ ⟨rfl, rfl⟩ (Nat.le_of_ble_eq_true rfl) fl_X6_15 (v := .int x27) rfl dX6_append_65 ?_
                exact xiret (pc := 68) C0 hr hH hS dX6_append_68 (by subst_vars; exact Int32.zero_add _)
              · have c26 := lt_nI (a := zl w) (b := 6) (zl_lb _) (by decide) c26
                refine lv_aload_n (pc := 29) C0.1 C0.2.1 dX6_append_29 rfl (lv_at hl 2 rfl) ?_
                refine xget (pc := 30) C0 hH 4 0 clX6 ⟨Nat.le_of_ble_eq_true rfl, Nat.le_of_ble_eq_true rfl⟩ ⟨rfl, rfl⟩ (Nat.le_of_ble_eq_true rfl) fl_X6_9 (v := .ref (b + 5)) rfl dX6_append_30 ?_
                refine lv_aload_n (pc := 33) C0.1 C0.2.1 dX6_append_33 rfl (lv_at hl 2 rfl) ?_
                refine xget (pc := 34) C0 hH 4 1 clX6 ⟨Nat.le_of_ble_eq_true rfl, Nat.le_of_ble_eq_true rfl⟩ ⟨rfl, rfl⟩ (Nat.le_of_ble_eq_true rfl) fl_X6_15 (v := .int 0) (congrArg Value.int hi_4_1) dX6_append_34 ?_
                refine lv_iload (pc := 37) C0.1 C0.2.1 dX6_append_37 (lv_at hl 0 rfl) ?_
                refine lv_iadd (pc := 39) C0.1 C0.2.1 dX6_append_39 ?_
                refine lv_topi (fun q28 eq28 => ?_)
                obtain rfl : q28 = 6 := eq28.trans (by decide)
                refine lv_lload_n (pc := 40) C0.1 C0.2.1 dX6_append_40 rfl (lv_at hl 3 rfl) ?_
                refine lv_iload (pc := 41) C0.1 C0.2.1 dX6_append_41 (lv_at hl 0 rfl) ?_
                refine xcNI (pc := 43) [.long w, .int 6] (c_X9_byteOf l D tA b 0 78 i (va_up (va_up (va_up (va_up (va_up (va_up F 5 (upd (F 5) (Int32.toNatClampNeg 0) (Int8.toInt32 (Int32.toInt8 ((nI (bt w 0)).toInt8.toInt32))))) 5 (upd (upd (F 5) (Int32.toNatClampNeg 0) (Int8.toInt32 (Int32.toInt8 ((nI (bt w 0)).toInt8.toInt32)))) (Int32.toNatClampNeg 1) (Int8.toInt32 (Int32.toInt8 ((nI (bt w 1)).toInt8.toInt32))))) 5 (upd (upd (upd (F 5) (Int32.toNatClampNeg 0) (Int8.toInt32 (Int32.toInt8 ((nI (bt w 0)).toInt8.toInt32)))) (Int32.toNatClampNeg 1) (Int8.toInt32 (Int32.toInt8 ((nI (bt w 1)).toInt8.toInt32)))) (Int32.toNatClampNeg 2) (Int8.toInt32 (Int32.toInt8 ((nI (bt w 2)).toInt8.toInt32))))) 5 (upd (upd (upd (upd (F 5) (Int32.toNatClampNeg 0) (Int8.toInt32 (Int32.toInt8 ((nI (bt w 0)).toInt8.toInt32)))) (Int32.toNatClampNeg 1) (Int8.toInt32 (Int32.toInt8 ((nI (bt w 1)).toInt8.toInt32)))) (Int32.toNatClampNeg 2) (Int8.toInt32 (Int32.toInt8 ((nI (bt w 2)).toInt8.toInt32)))) (Int32.toNatClampNeg 3) (Int8.toInt32 (Int32.toInt8 ((nI (bt w 3)).toInt8.toInt32))))) 5 (upd (upd (upd (upd (upd (F 5) (Int32.toNatClampNeg 0) (Int8.toInt32 (Int32.toInt8 ((nI (bt w 0)).toInt8.toInt32)))) (Int32.toNatClampNeg 1) (Int8.toInt32 (Int32.toInt8 ((nI (bt w 1)).toInt8.toInt32)))) (Int32.toNatClampNeg 2) (Int8.toInt32 (Int32.toInt8 ((nI (bt w 2)).toInt8.toInt32)))) (Int32.toNatClampNeg 3) (Int8.toInt32 (Int32.toInt8 ((nI (bt w 3)).toInt8.toInt32)))) (Int32.toNatClampNeg 4) (Int8.toInt32 (Int32.toInt8 ((nI (bt w 4)).toInt8.toInt32))))) 5 (upd (upd (upd (upd (upd (upd (F 5) (Int32.toNatClampNeg 0) (Int8.toInt32 (Int32.toInt8 ((nI (bt w 0)).toInt8.toInt32)))) (Int32.toNatClampNeg 1) (Int8.toInt32 (Int32.toInt8 ((nI (bt w 1)).toInt8.toInt32)))) (Int32.toNatClampNeg 2) (Int8.toInt32 (Int32.toInt8 ((nI (bt w 2)).toInt8.toInt32)))) (Int32.toNatClampNeg 3) (Int8.toInt32 (Int32.toInt8 ((nI (bt w 3)).toInt8.toInt32)))) (Int32.toNatClampNeg 4) (Int8.toInt32 (Int32.toInt8 ((nI (bt w 4)).toInt8.toInt32)))) (Int32.toNatClampNeg 5) (Int8.toInt32 (Int32.toInt8 ((nI (bt w 5)).toInt8.toInt32))))) G w 6 (by decide)) C0 hH hS cw_X6_23 st_X9_byteOf rfl ⟨Nat.le_of_ble_eq_true rfl, Nat.le_of_ble_eq_true rfl⟩ hl.1 rfl (Nat.le_of_ble_eq_true rfl) dX6_append_43 ⟨Nat.le_of_ble_eq_true rfl, Nat.le_of_ble_eq_true rfl⟩ (fun r29 ir29 Fr29 Gr29 _ locs hp hH hS => ?_)
                obtain ⟨hu, rfl⟩ := hp
                cases hu
                refine lv_i2b (pc := 46) (v := (nI (bt w 6)).toInt8.toInt32) C0.1 C0.2.1 dX6_append_46 rfl ?_
                refine xbast (pc := 47) (N := 600) C0 (Nat.le_of_ble_eq_true rfl) hH hS 5 ⟨Nat.le_of_ble_eq_true rfl, Nat.le_of_ble_eq_true rfl⟩ ⟨rfl, rfl⟩ (vin (by decide)) dX6_append_47 (fun _ locs hH hS => ?_)
                have hH : Hd D tA b 0 78 zz i (va_up (va_up (va_up (va_up (va_up (va_up (va_up F 5 (upd (F 5) (Int32.toNatClampNeg 0) (Int8.toInt32 (Int32.toInt8 ((nI (bt w 0)).toInt8.toInt32))))) 5 (upd (upd (F 5) (Int32.toNatClampNeg 0) (Int8.toInt32 (Int32.toInt8 ((nI (bt w 0)).toInt8.toInt32)))) (Int32.toNatClampNeg 1) (Int8.toInt32 (Int32.toInt8 ((nI (bt w 1)).toInt8.toInt32))))) 5 (upd (upd (upd (F 5) (Int32.toNatClampNeg 0) (Int8.toInt32 (Int32.toInt8 ((nI (bt w 0)).toInt8.toInt32)))) (Int32.toNatClampNeg 1) (Int8.toInt32 (Int32.toInt8 ((nI (bt w 1)).toInt8.toInt32)))) (Int32.toNatClampNeg 2) (Int8.toInt32 (Int32.toInt8 ((nI (bt w 2)).toInt8.toInt32))))) 5 (upd (upd (upd (upd (F 5) (Int32.toNatClampNeg 0) (Int8.toInt32 (Int32.toInt8 ((nI (bt w 0)).toInt8.toInt32)))) (Int32.toNatClampNeg 1) (Int8.toInt32 (Int32.toInt8 ((nI (bt w 1)).toInt8.toInt32)))) (Int32.toNatClampNeg 2) (Int8.toInt32 (Int32.toInt8 ((nI (bt w 2)).toInt8.toInt32)))) (Int32.toNatClampNeg 3) (Int8.toInt32 (Int32.toInt8 ((nI (bt w 3)).toInt8.toInt32))))) 5 (upd (upd (upd (upd (upd (F 5) (Int32.toNatClampNeg 0) (Int8.toInt32 (Int32.toInt8 ((nI (bt w 0)).toInt8.toInt32)))) (Int32.toNatClampNeg 1) (Int8.toInt32 (Int32.toInt8 ((nI (bt w 1)).toInt8.toInt32)))) (Int32.toNatClampNeg 2) (Int8.toInt32 (Int32.toInt8 ((nI (bt w 2)).toInt8.toInt32)))) (Int32.toNatClampNeg 3) (Int8.toInt32 (Int32.toInt8 ((nI (bt w 3)).toInt8.toInt32)))) (Int32.toNatClampNeg 4) (Int8.toInt32 (Int32.toInt8 ((nI (bt w 4)).toInt8.toInt32))))) 5 (upd (upd (upd (upd (upd (upd (F 5) (Int32.toNatClampNeg 0) (Int8.toInt32 (Int32.toInt8 ((nI (bt w 0)).toInt8.toInt32)))) (Int32.toNatClampNeg 1) (Int8.toInt32 (Int32.toInt8 ((nI (bt w 1)).toInt8.toInt32)))) (Int32.toNatClampNeg 2) (Int8.toInt32 (Int32.toInt8 ((nI (bt w 2)).toInt8.toInt32)))) (Int32.toNatClampNeg 3) (Int8.toInt32 (Int32.toInt8 ((nI (bt w 3)).toInt8.toInt32)))) (Int32.toNatClampNeg 4) (Int8.toInt32 (Int32.toInt8 ((nI (bt w 4)).toInt8.toInt32)))) (Int32.toNatClampNeg 5) (Int8.toInt32 (Int32.toInt8 ((nI (bt w 5)).toInt8.toInt32))))) 5 (upd (upd (upd (upd (upd (upd (upd (F 5) (Int32.toNatClampNeg 0) (Int8.toInt32 (Int32.toInt8 ((nI (bt w 0)).toInt8.toInt32)))) (Int32.toNatClampNeg 1) (Int8.toInt32 (Int32.toInt8 ((nI (bt w 1)).toInt8.toInt32)))) (Int32.toNatClampNeg 2) (Int8.toInt32 (Int32.toInt8 ((nI (bt w 2)).toInt8.toInt32)))) (Int32.toNatClampNeg 3) (Int8.toInt32 (Int32.toInt8 ((nI (bt w 3)).toInt8.toInt32)))) (Int32.toNatClampNeg 4) (Int8.toInt32 (Int32.toInt8 ((nI (bt w 4)).toInt8.toInt32)))) (Int32.toNatClampNeg 5) (Int8.toInt32 (Int32.toInt8 ((nI (bt w 5)).toInt8.toInt32)))) (Int32.toNatClampNeg 6) (Int8.toInt32 (Int32.toInt8 ((nI (bt w 6)).toInt8.toInt32))))) G _ := hH
                refine lv_iinc (pc := 48) (v := 7) (lv' := [(4, .int 7), (3, .int (nI (zl w))), (0, .ref (b + 4)), (1, .long w)]) C0.1 C0.2.1 dX6_append_48 hl (k := 0) rfl (by decide) (by decide) rfl (fun ls hl => ?_)
                refine lv_goto (pc := 51) (tgt := 23) C0.1 C0.2.1 dX6_append_51 (by decide) ?_
                refine lv_iload (pc := 23) C0.1 C0.2.1 dX6_append_23 (lv_at hl 0 rfl) ?_
                refine lv_iload_n (pc := 25) C0.1 C0.2.1 dX6_append_25 rfl (lv_at hl 1 rfl) ?_
                refine lv_icmp_ge (pc := 26) (tgt := 54) C0.1 C0.2.1 dX6_append_26 (by decide) (fun c30 => ?_) (fun c30 => ?_)
                · have c30 := le_nI (a := zl w) (b := 7) (zl_lb _) (by decide) c30
                  refine lv_aload_n (pc := 54) C0.1 C0.2.1 dX6_append_54 rfl (lv_at hl 2 rfl) ?_
                  refine lv_dup (pc := 55) C0.1 C0.2.1 dX6_append_55 rfl ?_
                  refine xget (pc := 56) C0 hH 4 1 clX6 ⟨Nat.le_of_ble_eq_true rfl, Nat.le_of_ble_eq_true rfl⟩ ⟨rfl, rfl⟩ (Nat.le_of_ble_eq_true rfl) fl_X6_15 (v := .int 0) (congrArg Value.int hi_4_1) dX6_append_56 ?_
                  refine lv_iload_n (pc := 59) C0.1 C0.2.1 dX6_append_59 rfl (lv_at hl 1 rfl) ?_
                  refine lv_iadd (pc := 60) C0.1 C0.2.1 dX6_append_60 ?_
                  refine lv_topi (fun x31 ex31 => ?_)
                  refine xputI (pc := 61) C0 (Nat.le_of_ble_eq_true rfl) hH hS 4 1 clX6 ⟨Nat.le_of_ble_eq_true rfl, Nat.le_of_ble_eq_true rfl⟩ ⟨rfl, rfl⟩ ⟨Nat.le_of_ble_eq_true rfl, rfl, rfl⟩ fl_X6_15 (x := x31) ⟨rfl, rfl⟩ dX6_append_61 (fun _ locs hH hS _ => ?_)
                  have hH : Hd D tA b 0 78 zz (up2 i 4 1 x31) (va_up (va_up (va_up (va_up (va_up (va_up (va_up F 5 (upd (F 5) (Int32.toNatClampNeg 0) (Int8.toInt32 (Int32.toInt8 ((nI (bt w 0)).toInt8.toInt32))))) 5 (upd (upd (F 5) (Int32.toNatClampNeg 0) (Int8.toInt32 (Int32.toInt8 ((nI (bt w 0)).toInt8.toInt32)))) (Int32.toNatClampNeg 1) (Int8.toInt32 (Int32.toInt8 ((nI (bt w 1)).toInt8.toInt32))))) 5 (upd (upd (upd (F 5) (Int32.toNatClampNeg 0) (Int8.toInt32 (Int32.toInt8 ((nI (bt w 0)).toInt8.toInt32)))) (Int32.toNatClampNeg 1) (Int8.toInt32 (Int32.toInt8 ((nI (bt w 1)).toInt8.toInt32)))) (Int32.toNatClampNeg 2) (Int8.toInt32 (Int32.toInt8 ((nI (bt w 2)).toInt8.toInt32))))) 5 (upd (upd (upd (upd (F 5) (Int32.toNatClampNeg 0) (Int8.toInt32 (Int32.toInt8 ((nI (bt w 0)).toInt8.toInt32)))) (Int32.toNatClampNeg 1) (Int8.toInt32 (Int32.toInt8 ((nI (bt w 1)).toInt8.toInt32)))) (Int32.toNatClampNeg 2) (Int8.toInt32 (Int32.toInt8 ((nI (bt w 2)).toInt8.toInt32)))) (Int32.toNatClampNeg 3) (Int8.toInt32 (Int32.toInt8 ((nI (bt w 3)).toInt8.toInt32))))) 5 (upd (upd (upd (upd (upd (F 5) (Int32.toNatClampNeg 0) (Int8.toInt32 (Int32.toInt8 ((nI (bt w 0)).toInt8.toInt32)))) (Int32.toNatClampNeg 1) (Int8.toInt32 (Int32.toInt8 ((nI (bt w 1)).toInt8.toInt32)))) (Int32.toNatClampNeg 2) (Int8.toInt32 (Int32.toInt8 ((nI (bt w 2)).toInt8.toInt32)))) (Int32.toNatClampNeg 3) (Int8.toInt32 (Int32.toInt8 ((nI (bt w 3)).toInt8.toInt32)))) (Int32.toNatClampNeg 4) (Int8.toInt32 (Int32.toInt8 ((nI (bt w 4)).toInt8.toInt32))))) 5 (upd (upd (upd (upd (upd (upd (F 5) (Int32.toNatClampNeg 0) (Int8.toInt32 (Int32.toInt8 ((nI (bt w 0)).toInt8.toInt32)))) (Int32.toNatClampNeg 1) (Int8.toInt32 (Int32.toInt8 ((nI (bt w 1)).toInt8.toInt32)))) (Int32.toNatClampNeg 2) (Int8.toInt32 (Int32.toInt8 ((nI (bt w 2)).toInt8.toInt32)))) (Int32.toNatClampNeg 3) (Int8.toInt32 (Int32.toInt8 ((nI (bt w 3)).toInt8.toInt32)))) (Int32.toNatClampNeg 4) (Int8.toInt32 (Int32.toInt8 ((nI (bt w 4)).toInt8.toInt32)))) (Int32.toNatClampNeg 5) (Int8.toInt32 (Int32.toInt8 ((nI (bt w 5)).toInt8.toInt32))))) 5 (upd (upd (upd (upd (upd (upd (upd (F 5) (Int32.toNatClampNeg 0) (Int8.toInt32 (Int32.toInt8 ((nI (bt w 0)).toInt8.toInt32)))) (Int32.toNatClampNeg 1) (Int8.toInt32 (Int32.toInt8 ((nI (bt w 1)).toInt8.toInt32)))) (Int32.toNatClampNeg 2) (Int8.toInt32 (Int32.toInt8 ((nI (bt w 2)).toInt8.toInt32)))) (Int32.toNatClampNeg 3) (Int8.toInt32 (Int32.toInt8 ((nI (bt w 3)).toInt8.toInt32)))) (Int32.toNatClampNeg 4) (Int8.toInt32 (Int32.toInt8 ((nI (bt w 4)).toInt8.toInt32)))) (Int32.toNatClampNeg 5) (Int8.toInt32 (Int32.toInt8 ((nI (bt w 5)).toInt8.toInt32)))) (Int32.toNatClampNeg 6) (Int8.toInt32 (Int32.toInt8 ((nI (bt w 6)).toInt8.toInt32))))) G _ := hH
                  refine lv_aload_n (pc := 64) C0.1 C0.2.1 dX6_append_64 rfl (lv_at hl 2 rfl) ?_
                  refine xget (pc := 65) C0 hH 4 1 clX6 ⟨Nat.le_of_ble_eq_true rfl, Nat.le_of_ble_eq_true rfl⟩ ⟨rfl, rfl⟩ (Nat.le_of_ble_eq_true rfl) fl_X6_15 (v := .int x31) rfl dX6_append_65 ?_
                  exact xiret (pc := 68) C0 hr hH hS dX6_append_68 (by subst_vars; exact Int32.zero_add _)
                · have c30 := lt_nI (a := zl w) (b := 7) (zl_lb _) (by decide) c30
                  refine lv_aload_n (pc := 29) C0.1 C0.2.1 dX6_append_29 rfl (lv_at hl 2 rfl) ?_
                  refine xget (pc := 30) C0 hH 4 0 clX6 ⟨Nat.le_of_ble_eq_true rfl, Nat.le_of_ble_eq_true rfl⟩ ⟨rfl, rfl⟩ (Nat.le_of_ble_eq_true rfl) fl_X6_9 (v := .ref (b + 5)) rfl dX6_append_30 ?_
                  refine lv_aload_n (pc := 33) C0.1 C0.2.1 dX6_append_33 rfl (lv_at hl 2 rfl) ?_
                  refine xget (pc := 34) C0 hH 4 1 clX6 ⟨Nat.le_of_ble_eq_true rfl, Nat.le_of_ble_eq_true rfl⟩ ⟨rfl, rfl⟩ (Nat.le_of_ble_eq_true rfl) fl_X6_15 (v := .int 0) (congrArg Value.int hi_4_1) dX6_append_34 ?_
                  refine lv_iload (pc := 37) C0.1 C0.2.1 dX6_append_37 (lv_at hl 0 rfl) ?_
                  refine lv_iadd (pc := 39) C0.1 C0.2.1 dX6_append_39 ?_
                  refine lv_topi (fun q32 eq32 => ?_)
                  obtain rfl : q32 = 7 := eq32.trans (by decide)
                  refine lv_lload_n (pc := 40) C0.1 C0.2.1 dX6_append_40 rfl (lv_at hl 3 rfl) ?_
                  refine lv_iload (pc := 41) C0.1 C0.2.1 dX6_append_41 (lv_at hl 0 rfl) ?_
                  refine xcNI (pc := 43) [.long w, .int 7] (c_X9_byteOf l D tA b 0 78 i (va_up (va_up (va_up (va_up (va_up (va_up (va_up F 5 (upd (F 5) (Int32.toNatClampNeg 0) (Int8.toInt32 (Int32.toInt8 ((nI (bt w 0)).toInt8.toInt32))))) 5 (upd (upd (F 5) (Int32.toNatClampNeg 0) (Int8.toInt32 (Int32.toInt8 ((nI (bt w 0)).toInt8.toInt32)))) (Int32.toNatClampNeg 1) (Int8.toInt32 (Int32.toInt8 ((nI (bt w 1)).toInt8.toInt32))))) 5 (upd (upd (upd (F 5) (Int32.toNatClampNeg 0) (Int8.toInt32 (Int32.toInt8 ((nI (bt w 0)).toInt8.toInt32)))) (Int32.toNatClampNeg 1) (Int8.toInt32 (Int32.toInt8 ((nI (bt w 1)).toInt8.toInt32)))) (Int32.toNatClampNeg 2) (Int8.toInt32 (Int32.toInt8 ((nI (bt w 2)).toInt8.toInt32))))) 5 (upd (upd (upd (upd (F 5) (Int32.toNatClampNeg 0) (Int8.toInt32 (Int32.toInt8 ((nI (bt w 0)).toInt8.toInt32)))) (Int32.toNatClampNeg 1) (Int8.toInt32 (Int32.toInt8 ((nI (bt w 1)).toInt8.toInt32)))) (Int32.toNatClampNeg 2) (Int8.toInt32 (Int32.toInt8 ((nI (bt w 2)).toInt8.toInt32)))) (Int32.toNatClampNeg 3) (Int8.toInt32 (Int32.toInt8 ((nI (bt w 3)).toInt8.toInt32))))) 5 (upd (upd (upd (upd (upd (F 5) (Int32.toNatClampNeg 0) (Int8.toInt32 (Int32.toInt8 ((nI (bt w 0)).toInt8.toInt32)))) (Int32.toNatClampNeg 1) (Int8.toInt32 (Int32.toInt8 ((nI (bt w 1)).toInt8.toInt32)))) (Int32.toNatClampNeg 2) (Int8.toInt32 (Int32.toInt8 ((nI (bt w 2)).toInt8.toInt32)))) (Int32.toNatClampNeg 3) (Int8.toInt32 (Int32.toInt8 ((nI (bt w 3)).toInt8.toInt32)))) (Int32.toNatClampNeg 4) (Int8.toInt32 (Int32.toInt8 ((nI (bt w 4)).toInt8.toInt32))))) 5 (upd (upd (upd (upd (upd (upd (F 5) (Int32.toNatClampNeg 0) (Int8.toInt32 (Int32.toInt8 ((nI (bt w 0)).toInt8.toInt32)))) (Int32.toNatClampNeg 1) (Int8.toInt32 (Int32.toInt8 ((nI (bt w 1)).toInt8.toInt32)))) (Int32.toNatClampNeg 2) (Int8.toInt32 (Int32.toInt8 ((nI (bt w 2)).toInt8.toInt32)))) (Int32.toNatClampNeg 3) (Int8.toInt32 (Int32.toInt8 ((nI (bt w 3)).toInt8.toInt32)))) (Int32.toNatClampNeg 4) (Int8.toInt32 (Int32.toInt8 ((nI (bt w 4)).toInt8.toInt32)))) (Int32.toNatClampNeg 5) (Int8.toInt32 (Int32.toInt8 ((nI (bt w 5)).toInt8.toInt32))))) 5 (upd (upd (upd (upd (upd (upd (upd (F 5) (Int32.toNatClampNeg 0) (Int8.toInt32 (Int32.toInt8 ((nI (bt w 0)).toInt8.toInt32)))) (Int32.toNatClampNeg 1) (Int8.toInt32 (Int32.toInt8 ((nI (bt w 1)).toInt8.toInt32)))) (Int32.toNatClampNeg 2) (Int8.toInt32 (Int32.toInt8 ((nI (bt w 2)).toInt8.toInt32)))) (Int32.toNatClampNeg 3) (Int8.toInt32 (Int32.toInt8 ((nI (bt w 3)).toInt8.toInt32)))) (Int32.toNatClampNeg 4) (Int8.toInt32 (Int32.toInt8 ((nI (bt w 4)).toInt8.toInt32)))) (Int32.toNatClampNeg 5) (Int8.toInt32 (Int32.toInt8 ((nI (bt w 5)).toInt8.toInt32)))) (Int32.toNatClampNeg 6) (Int8.toInt32 (Int32.toInt8 ((nI (bt w 6)).toInt8.toInt32))))) G w 7 (by decide)) C0 hH hS cw_X6_23 st_X9_byteOf rfl ⟨Nat.le_of_ble_eq_true rfl, Nat.le_of_ble_eq_true rfl⟩ hl.1 rfl (Nat.le_of_ble_eq_true rfl) dX6_append_43 ⟨Nat.le_of_ble_eq_true rfl, Nat.le_of_ble_eq_true rfl⟩ (fun r33 ir33 Fr33 Gr33 _ locs hp hH hS => ?_)
                  obtain ⟨hu, rfl⟩ := hp
                  cases hu
                  refine lv_i2b (pc := 46) (v := (nI (bt w 7)).toInt8.toInt32) C0.1 C0.2.1 dX6_append_46 rfl ?_
                  refine xbast (pc := 47) (N := 600) C0 (Nat.le_of_ble_eq_true rfl) hH hS 5 ⟨Nat.le_of_ble_eq_true rfl, Nat.le_of_ble_eq_true rfl⟩ ⟨rfl, rfl⟩ (vin (by decide)) dX6_append_47 (fun _ locs hH hS => ?_)
                  have hH : Hd D tA b 0 78 zz i (va_up (va_up (va_up (va_up (va_up (va_up (va_up (va_up F 5 (upd (F 5) (Int32.toNatClampNeg 0) (Int8.toInt32 (Int32.toInt8 ((nI (bt w 0)).toInt8.toInt32))))) 5 (upd (upd (F 5) (Int32.toNatClampNeg 0) (Int8.toInt32 (Int32.toInt8 ((nI (bt w 0)).toInt8.toInt32)))) (Int32.toNatClampNeg 1) (Int8.toInt32 (Int32.toInt8 ((nI (bt w 1)).toInt8.toInt32))))) 5 (upd (upd (upd (F 5) (Int32.toNatClampNeg 0) (Int8.toInt32 (Int32.toInt8 ((nI (bt w 0)).toInt8.toInt32)))) (Int32.toNatClampNeg 1) (Int8.toInt32 (Int32.toInt8 ((nI (bt w 1)).toInt8.toInt32)))) (Int32.toNatClampNeg 2) (Int8.toInt32 (Int32.toInt8 ((nI (bt w 2)).toInt8.toInt32))))) 5 (upd (upd (upd (upd (F 5) (Int32.toNatClampNeg 0) (Int8.toInt32 (Int32.toInt8 ((nI (bt w 0)).toInt8.toInt32)))) (Int32.toNatClampNeg 1) (Int8.toInt32 (Int32.toInt8 ((nI (bt w 1)).toInt8.toInt32)))) (Int32.toNatClampNeg 2) (Int8.toInt32 (Int32.toInt8 ((nI (bt w 2)).toInt8.toInt32)))) (Int32.toNatClampNeg 3) (Int8.toInt32 (Int32.toInt8 ((nI (bt w 3)).toInt8.toInt32))))) 5 (upd (upd (upd (upd (upd (F 5) (Int32.toNatClampNeg 0) (Int8.toInt32 (Int32.toInt8 ((nI (bt w 0)).toInt8.toInt32)))) (Int32.toNatClampNeg 1) (Int8.toInt32 (Int32.toInt8 ((nI (bt w 1)).toInt8.toInt32)))) (Int32.toNatClampNeg 2) (Int8.toInt32 (Int32.toInt8 ((nI (bt w 2)).toInt8.toInt32)))) (Int32.toNatClampNeg 3) (Int8.toInt32 (Int32.toInt8 ((nI (bt w 3)).toInt8.toInt32)))) (Int32.toNatClampNeg 4) (Int8.toInt32 (Int32.toInt8 ((nI (bt w 4)).toInt8.toInt32))))) 5 (upd (upd (upd (upd (upd (upd (F 5) (Int32.toNatClampNeg 0) (Int8.toInt32 (Int32.toInt8 ((nI (bt w 0)).toInt8.toInt32)))) (Int32.toNatClampNeg 1) (Int8.toInt32 (Int32.toInt8 ((nI (bt w 1)).toInt8.toInt32)))) (Int32.toNatClampNeg 2) (Int8.toInt32 (Int32.toInt8 ((nI (bt w 2)).toInt8.toInt32)))) (Int32.toNatClampNeg 3) (Int8.toInt32 (Int32.toInt8 ((nI (bt w 3)).toInt8.toInt32)))) (Int32.toNatClampNeg 4) (Int8.toInt32 (Int32.toInt8 ((nI (bt w 4)).toInt8.toInt32)))) (Int32.toNatClampNeg 5) (Int8.toInt32 (Int32.toInt8 ((nI (bt w 5)).toInt8.toInt32))))) 5 (upd (upd (upd (upd (upd (upd (upd (F 5) (Int32.toNatClampNeg 0) (Int8.toInt32 (Int32.toInt8 ((nI (bt w 0)).toInt8.toInt32)))) (Int32.toNatClampNeg 1) (Int8.toInt32 (Int32.toInt8 ((nI (bt w 1)).toInt8.toInt32)))) (Int32.toNatClampNeg 2) (Int8.toInt32 (Int32.toInt8 ((nI (bt w 2)).toInt8.toInt32)))) (Int32.toNatClampNeg 3) (Int8.toInt32 (Int32.toInt8 ((nI (bt w 3)).toInt8.toInt32)))) (Int32.toNatClampNeg 4) (Int8.toInt32 (Int32.toInt8 ((nI (bt w 4)).toInt8.toInt32)))) (Int32.toNatClampNeg 5) (Int8.toInt32 (Int32.toInt8 ((nI (bt w 5)).toInt8.toInt32)))) (Int32.toNatClampNeg 6) (Int8.toInt32 (Int32.toInt8 ((nI (bt w 6)).toInt8.toInt32))))) 5 (upd (upd (upd (upd (upd (upd (upd (upd (F 5) (Int32.toNatClampNeg 0) (Int8.toInt32 (Int32.toInt8 ((nI (bt w 0)).toInt8.toInt32)))) (Int32.toNatClampNeg 1) (Int8.toInt32 (Int32.toInt8 ((nI (bt w 1)).toInt8.toInt32)))) (Int32.toNatClampNeg 2) (Int8.toInt32 (Int32.toInt8 ((nI (bt w 2)).toInt8.toInt32)))) (Int32.toNatClampNeg 3) (Int8.toInt32 (Int32.toInt8 ((nI (bt w 3)).toInt8.toInt32)))) (Int32.toNatClampNeg 4) (Int8.toInt32 (Int32.toInt8 ((nI (bt w 4)).toInt8.toInt32)))) (Int32.toNatClampNeg 5) (Int8.toInt32 (Int32.toInt8 ((nI (bt w 5)).toInt8.toInt32)))) (Int32.toNatClampNeg 6) (Int8.toInt32 (Int32.toInt8 ((nI (bt w 6)).toInt8.toInt32)))) (Int32.toNatClampNeg 7) (Int8.toInt32 (Int32.toInt8 ((nI (bt w 7)).toInt8.toInt32))))) G _ := hH
                  refine lv_iinc (pc := 48) (v := 8) (lv' := [(4, .int 8), (3, .int (nI (zl w))), (0, .ref (b + 4)), (1, .long w)]) C0.1 C0.2.1 dX6_append_48 hl (k := 0) rfl (by decide) (by decide) rfl (fun ls hl => ?_)
                  refine lv_goto (pc := 51) (tgt := 23) C0.1 C0.2.1 dX6_append_51 (by decide) ?_
                  refine lv_iload (pc := 23) C0.1 C0.2.1 dX6_append_23 (lv_at hl 0 rfl) ?_
                  refine lv_iload_n (pc := 25) C0.1 C0.2.1 dX6_append_25 rfl (lv_at hl 1 rfl) ?_
                  refine lv_icmp_ge (pc := 26) (tgt := 54) C0.1 C0.2.1 dX6_append_26 (by decide) (fun _ => ?_) (fun c => absurd (nI_le (zl_le _) (by decide)) c)
                  refine lv_aload_n (pc := 54) C0.1 C0.2.1 dX6_append_54 rfl (lv_at hl 2 rfl) ?_
                  refine lv_dup (pc := 55) C0.1 C0.2.1 dX6_append_55 rfl ?_
                  refine xget (pc := 56) C0 hH 4 1 clX6 ⟨Nat.le_of_ble_eq_true rfl, Nat.le_of_ble_eq_true rfl⟩ ⟨rfl, rfl⟩ (Nat.le_of_ble_eq_true rfl) fl_X6_15 (v := .int 0) (congrArg Value.int hi_4_1) dX6_append_56 ?_
                  refine lv_iload_n (pc := 59) C0.1 C0.2.1 dX6_append_59 rfl (lv_at hl 1 rfl) ?_
                  refine lv_iadd (pc := 60) C0.1 C0.2.1 dX6_append_60 ?_
                  refine lv_topi (fun x34 ex34 => ?_)
                  refine xputI (pc := 61) C0 (Nat.le_of_ble_eq_true rfl) hH hS 4 1 clX6 ⟨Nat.le_of_ble_eq_true rfl, Nat.le_of_ble_eq_true rfl⟩ ⟨rfl, rfl⟩ ⟨Nat.le_of_ble_eq_true rfl, rfl, rfl⟩ fl_X6_15 (x := x34) ⟨rfl, rfl⟩ dX6_append_61 (fun _ locs hH hS _ => ?_)
                  have hH : Hd D tA b 0 78 zz (up2 i 4 1 x34) (va_up (va_up (va_up (va_up (va_up (va_up (va_up (va_up F 5 (upd (F 5) (Int32.toNatClampNeg 0) (Int8.toInt32 (Int32.toInt8 ((nI (bt w 0)).toInt8.toInt32))))) 5 (upd (upd (F 5) (Int32.toNatClampNeg 0) (Int8.toInt32 (Int32.toInt8 ((nI (bt w 0)).toInt8.toInt32)))) (Int32.toNatClampNeg 1) (Int8.toInt32 (Int32.toInt8 ((nI (bt w 1)).toInt8.toInt32))))) 5 (upd (upd (upd (F 5) (Int32.toNatClampNeg 0) (Int8.toInt32 (Int32.toInt8 ((nI (bt w 0)).toInt8.toInt32)))) (Int32.toNatClampNeg 1) (Int8.toInt32 (Int32.toInt8 ((nI (bt w 1)).toInt8.toInt32)))) (Int32.toNatClampNeg 2) (Int8.toInt32 (Int32.toInt8 ((nI (bt w 2)).toInt8.toInt32))))) 5 (upd (upd (upd (upd (F 5) (Int32.toNatClampNeg 0) (Int8.toInt32 (Int32.toInt8 ((nI (bt w 0)).toInt8.toInt32)))) (Int32.toNatClampNeg 1) (Int8.toInt32 (Int32.toInt8 ((nI (bt w 1)).toInt8.toInt32)))) (Int32.toNatClampNeg 2) (Int8.toInt32 (Int32.toInt8 ((nI (bt w 2)).toInt8.toInt32)))) (Int32.toNatClampNeg 3) (Int8.toInt32 (Int32.toInt8 ((nI (bt w 3)).toInt8.toInt32))))) 5 (upd (upd (upd (upd (upd (F 5) (Int32.toNatClampNeg 0) (Int8.toInt32 (Int32.toInt8 ((nI (bt w 0)).toInt8.toInt32)))) (Int32.toNatClampNeg 1) (Int8.toInt32 (Int32.toInt8 ((nI (bt w 1)).toInt8.toInt32)))) (Int32.toNatClampNeg 2) (Int8.toInt32 (Int32.toInt8 ((nI (bt w 2)).toInt8.toInt32)))) (Int32.toNatClampNeg 3) (Int8.toInt32 (Int32.toInt8 ((nI (bt w 3)).toInt8.toInt32)))) (Int32.toNatClampNeg 4) (Int8.toInt32 (Int32.toInt8 ((nI (bt w 4)).toInt8.toInt32))))) 5 (upd (upd (upd (upd (upd (upd (F 5) (Int32.toNatClampNeg 0) (Int8.toInt32 (Int32.toInt8 ((nI (bt w 0)).toInt8.toInt32)))) (Int32.toNatClampNeg 1) (Int8.toInt32 (Int32.toInt8 ((nI (bt w 1)).toInt8.toInt32)))) (Int32.toNatClampNeg 2) (Int8.toInt32 (Int32.toInt8 ((nI (bt w 2)).toInt8.toInt32)))) (Int32.toNatClampNeg 3) (Int8.toInt32 (Int32.toInt8 ((nI (bt w 3)).toInt8.toInt32)))) (Int32.toNatClampNeg 4) (Int8.toInt32 (Int32.toInt8 ((nI (bt w 4)).toInt8.toInt32)))) (Int32.toNatClampNeg 5) (Int8.toInt32 (Int32.toInt8 ((nI (bt w 5)).toInt8.toInt32))))) 5 (upd (upd (upd (upd (upd (upd (upd (F 5) (Int32.toNatClampNeg 0) (Int8.toInt32 (Int32.toInt8 ((nI (bt w 0)).toInt8.toInt32)))) (Int32.toNatClampNeg 1) (Int8.toInt32 (Int32.toInt8 ((nI (bt w 1)).toInt8.toInt32)))) (Int32.toNatClampNeg 2) (Int8.toInt32 (Int32.toInt8 ((nI (bt w 2)).toInt8.toInt32)))) (Int32.toNatClampNeg 3) (Int8.toInt32 (Int32.toInt8 ((nI (bt w 3)).toInt8.toInt32)))) (Int32.toNatClampNeg 4) (Int8.toInt32 (Int32.toInt8 ((nI (bt w 4)).toInt8.toInt32)))) (Int32.toNatClampNeg 5) (Int8.toInt32 (Int32.toInt8 ((nI (bt w 5)).toInt8.toInt32)))) (Int32.toNatClampNeg 6) (Int8.toInt32 (Int32.toInt8 ((nI (bt w 6)).toInt8.toInt32))))) 5 (upd (upd (upd (upd (upd (upd (upd (upd (F 5) (Int32.toNatClampNeg 0) (Int8.toInt32 (Int32.toInt8 ((nI (bt w 0)).toInt8.toInt32)))) (Int32.toNatClampNeg 1) (Int8.toInt32 (Int32.toInt8 ((nI (bt w 1)).toInt8.toInt32)))) (Int32.toNatClampNeg 2) (Int8.toInt32 (Int32.toInt8 ((nI (bt w 2)).toInt8.toInt32)))) (Int32.toNatClampNeg 3) (Int8.toInt32 (Int32.toInt8 ((nI (bt w 3)).toInt8.toInt32)))) (Int32.toNatClampNeg 4) (Int8.toInt32 (Int32.toInt8 ((nI (bt w 4)).toInt8.toInt32)))) (Int32.toNatClampNeg 5) (Int8.toInt32 (Int32.toInt8 ((nI (bt w 5)).toInt8.toInt32)))) (Int32.toNatClampNeg 6) (Int8.toInt32 (Int32.toInt8 ((nI (bt w 6)).toInt8.toInt32)))) (Int32.toNatClampNeg 7) (Int8.toInt32 (Int32.toInt8 ((nI (bt w 7)).toInt8.toInt32))))) G _ := hH
                  refine lv_aload_n (pc := 64) C0.1 C0.2.1 dX6_append_64 rfl (lv_at hl 2 rfl) ?_
                  refine xget (pc := 65) C0 hH 4 1 clX6 ⟨Nat.le_of_ble_eq_true rfl, Nat.le_of_ble_eq_true rfl⟩ ⟨rfl, rfl⟩ (Nat.le_of_ble_eq_true rfl) fl_X6_15 (v := .int x34) rfl dX6_append_65 ?_
                  exact xiret (pc := 68) C0 hr hH hS dX6_append_68 (by subst_vars; exact Int32.zero_add _)
set_option maxHeartbeats 4000000 in
set_option maxRecDepth 100000 in
theorem p_X9_feed (l : Launch) (D : va_G) (tA : Nat → ClassId) (b : Nat) (i F : Nat → Nat → Int32) (G : Nat → Nat → Int64) (w : Int64) (hi_4_1 : i 4 1 = 0) : xMI l yX9_feed cX9_feed 3 (some .int) 3 68 D tA b 0 78 i F G [.ref (b + 0), .long w] (fun r _ => r = nI (zl w)) := by
  refine xstart RX9 rfl (by decide) (Nat.le_of_ble_eq_true rfl) ?_
  intro p e s m below meth c ls C0 hr hH hS hl
  have hl : lv_has ls 3 [(0, .ref (b + 0)), (1, .long w)] := hl
  refine lv_aload_n (pc := 0) C0.1 C0.2.1 dX9_feed_0 rfl (lv_at hl 0 rfl) ?_
  refine lv_aload_n (pc := 1) C0.1 C0.2.1 dX9_feed_1 rfl (lv_at hl 0 rfl) ?_
  refine xget (pc := 2) C0 hH 0 1 clX9 ⟨Nat.le_of_ble_eq_true rfl, Nat.le_of_ble_eq_true rfl⟩ ⟨rfl, rfl⟩ (Nat.le_of_ble_eq_true rfl) fl_X9_19 (v := .ref (b + 4)) rfl dX9_feed_2 ?_
  refine lv_lload_n (pc := 5) C0.1 C0.2.1 dX9_feed_5 rfl (lv_at hl 1 rfl) ?_
  refine xcVI (pc := 6) 4 [.long w] (m51_X6_append l D tA b i F G w (by exact hi_4_1)) C0 hH hS clX6 rfl ⟨⟨Nat.le_of_ble_eq_true rfl, Nat.le_of_ble_eq_true rfl⟩, rfl, rfl⟩ cw_X9_89 rfl ⟨Nat.le_of_ble_eq_true rfl, Nat.le_of_ble_eq_true rfl⟩ hl.1 rfl (Nat.le_of_ble_eq_true rfl) dX9_feed_6 ⟨Nat.le_of_ble_eq_true rfl, Nat.le_of_ble_eq_true rfl⟩ (fun r1 ir1 Fr1 Gr1 _ locs hp hH hS => ?_)
  obtain rfl := hp
  refine xcVI (pc := 9) 0 [.int (nI (zl w))] (m14_X9_unreadUnlessRefused l D tA b ir1 Fr1 Gr1 (nI (zl w)) ) C0 hH hS clX9 rfl ⟨⟨Nat.le_of_ble_eq_true rfl, Nat.le_of_ble_eq_true rfl⟩, rfl, rfl⟩ cw_X9_71 rfl ⟨Nat.le_of_ble_eq_true rfl, Nat.le_of_ble_eq_true rfl⟩ hl.1 rfl (Nat.le_of_ble_eq_true rfl) dX9_feed_9 ⟨Nat.le_of_ble_eq_true rfl, Nat.le_of_ble_eq_true rfl⟩ (fun r2 ir2 Fr2 Gr2 _ locs hp hH hS => ?_)
  obtain rfl := hp
  exact xiret (pc := 12) C0 hr hH hS dX9_feed_12 rfl
