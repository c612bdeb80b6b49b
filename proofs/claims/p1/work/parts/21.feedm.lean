theorem dX10_feed_0 : decode cX10_feed 0 = .ok (.iconst 0, 1) := by decide +kernel
theorem dX10_feed_1 : decode cX10_feed 1 = .ok (.istore_n 3, 1) := by decide +kernel
theorem dX10_feed_2 : decode cX10_feed 2 = .ok (.iload_n 3, 1) := by decide +kernel
theorem dX10_feed_3 : decode cX10_feed 3 = .ok (.bipush 8, 2) := by decide +kernel
theorem dX10_feed_5 : decode cX10_feed 5 = .ok (.if_icmp .ge 24, 3) := by decide +kernel
theorem dX10_feed_8 : decode cX10_feed 8 = .ok (.lload_n 1, 1) := by decide +kernel
theorem dX10_feed_9 : decode cX10_feed 9 = .ok (.bipush 8, 2) := by decide +kernel
theorem dX10_feed_11 : decode cX10_feed 11 = .ok (.iload_n 3, 1) := by decide +kernel
theorem dX10_feed_12 : decode cX10_feed 12 = .ok (.imul, 1) := by decide +kernel
theorem dX10_feed_13 : decode cX10_feed 13 = .ok (.lushr, 1) := by decide +kernel
theorem dX10_feed_14 : decode cX10_feed 14 = .ok (.ldc2_w 169, 3) := by decide +kernel
theorem dX10_feed_17 : decode cX10_feed 17 = .ok (.land, 1) := by decide +kernel
theorem dX10_feed_18 : decode cX10_feed 18 = .ok (.lconst 0, 1) := by decide +kernel
theorem dX10_feed_19 : decode cX10_feed 19 = .ok (.lcmp, 1) := by decide +kernel
theorem dX10_feed_20 : decode cX10_feed 20 = .ok (.ifCond .eq 9, 3) := by decide +kernel
theorem dX10_feed_29 : decode cX10_feed 29 = .ok (.aload_n 0, 1) := by decide +kernel
theorem dX10_feed_30 : decode cX10_feed 30 = .ok (.getfield 219, 3) := by decide +kernel
theorem dX10_feed_33 : decode cX10_feed 33 = .ok (.iload_n 3, 1) := by decide +kernel
theorem dX10_feed_34 : decode cX10_feed 34 = .ok (.iadd, 1) := by decide +kernel
theorem dX10_feed_35 : decode cX10_feed 35 = .ok (.sipush 600, 3) := by decide +kernel
theorem dX10_feed_38 : decode cX10_feed 38 = .ok (.if_icmp .le 6, 3) := by decide +kernel
theorem dX10_feed_44 : decode cX10_feed 44 = .ok (.iconst 0, 1) := by decide +kernel
theorem dX10_feed_45 : decode cX10_feed 45 = .ok (.istore 4, 2) := by decide +kernel
theorem dX10_feed_47 : decode cX10_feed 47 = .ok (.iload 4, 2) := by decide +kernel
theorem dX10_feed_49 : decode cX10_feed 49 = .ok (.iload_n 3, 1) := by decide +kernel
theorem dX10_feed_50 : decode cX10_feed 50 = .ok (.if_icmp .ge 30, 3) := by decide +kernel
theorem dX10_feed_80 : decode cX10_feed 80 = .ok (.aload_n 0, 1) := by decide +kernel
theorem dX10_feed_81 : decode cX10_feed 81 = .ok (.dup, 1) := by decide +kernel
theorem dX10_feed_82 : decode cX10_feed 82 = .ok (.getfield 219, 3) := by decide +kernel
theorem dX10_feed_85 : decode cX10_feed 85 = .ok (.iload_n 3, 1) := by decide +kernel
theorem dX10_feed_86 : decode cX10_feed 86 = .ok (.iadd, 1) := by decide +kernel
theorem dX10_feed_87 : decode cX10_feed 87 = .ok (.putfield 219, 3) := by decide +kernel
theorem dX10_feed_90 : decode cX10_feed 90 = .ok (.aload_n 0, 1) := by decide +kernel
theorem dX10_feed_91 : decode cX10_feed 91 = .ok (.iconst 0, 1) := by decide +kernel
theorem dX10_feed_92 : decode cX10_feed 92 = .ok (.putfield 211, 3) := by decide +kernel
theorem dX10_feed_95 : decode cX10_feed 95 = .ok (.aload_n 0, 1) := by decide +kernel
theorem dX10_feed_96 : decode cX10_feed 96 = .ok (.getfield 219, 3) := by decide +kernel
theorem dX10_feed_99 : decode cX10_feed 99 = .ok (.ireturn, 1) := by decide +kernel
theorem dX10_feed_23 : decode cX10_feed 23 = .ok (.iinc 3 1, 3) := by decide +kernel
theorem dX10_feed_26 : decode cX10_feed 26 = .ok (.goto (-24), 3) := by decide +kernel
theorem dX10_feed_53 : decode cX10_feed 53 = .ok (.aload_n 0, 1) := by decide +kernel
theorem dX10_feed_54 : decode cX10_feed 54 = .ok (.getfield 29, 3) := by decide +kernel
theorem dX10_feed_57 : decode cX10_feed 57 = .ok (.aload_n 0, 1) := by decide +kernel
theorem dX10_feed_58 : decode cX10_feed 58 = .ok (.getfield 219, 3) := by decide +kernel
theorem dX10_feed_61 : decode cX10_feed 61 = .ok (.iload 4, 2) := by decide +kernel
theorem dX10_feed_63 : decode cX10_feed 63 = .ok (.iadd, 1) := by decide +kernel
theorem dX10_feed_64 : decode cX10_feed 64 = .ok (.lload_n 1, 1) := by decide +kernel
theorem dX10_feed_65 : decode cX10_feed 65 = .ok (.bipush 8, 2) := by decide +kernel
theorem dX10_feed_67 : decode cX10_feed 67 = .ok (.iload 4, 2) := by decide +kernel
theorem dX10_feed_69 : decode cX10_feed 69 = .ok (.imul, 1) := by decide +kernel
theorem dX10_feed_70 : decode cX10_feed 70 = .ok (.lushr, 1) := by decide +kernel
theorem dX10_feed_71 : decode cX10_feed 71 = .ok (.l2i, 1) := by decide +kernel
theorem dX10_feed_72 : decode cX10_feed 72 = .ok (.i2b, 1) := by decide +kernel
theorem dX10_feed_73 : decode cX10_feed 73 = .ok (.bastore, 1) := by decide +kernel
theorem dX10_feed_74 : decode cX10_feed 74 = .ok (.iinc 4 1, 3) := by decide +kernel
theorem dX10_feed_77 : decode cX10_feed 77 = .ok (.goto (-30), 3) := by decide +kernel
set_option maxHeartbeats 4000000 in
set_option maxRecDepth 100000 in
theorem p_X10_feed (l : Launch) (D : va_G) (tA : Nat → ClassId) (b : Nat) (i F : Nat → Nat → Int32) (G : Nat → Nat → Int64) (w : Int64) (hi_78_12 : i 78 12 = 0) : xMI l yX10_feed cX10_feed 5 (some .int) 0 0 D tA b 78 52 i F G [.ref (b + 78), .long w] (fun r _ => r = nI (zl w)) := by
  refine xstart RX10 rfl (by decide) (Nat.le_of_ble_eq_true rfl) ?_
  intro p e s m below meth c ls C0 hr hH hS hl
  have hl : lv_has ls 5 [(0, .ref (b + 78)), (1, .long w)] := hl
  refine lv_iconst (pc := 0) (v := 0) C0.1 C0.2.1 dX10_feed_0 (by decide) ?_
  refine lv_istore_n (pc := 1) (lv' := [(3, .int 0), (0, .ref (b + 78)), (1, .long w)]) C0.1 C0.2.1 dX10_feed_1 rfl hl (by decide) rfl (fun ls hl => ?_)
  refine lv_iload_n (pc := 2) C0.1 C0.2.1 dX10_feed_2 rfl (lv_at hl 0 rfl) ?_
  refine lv_bipush (pc := 3) (v := 8) C0.1 C0.2.1 dX10_feed_3 (by decide) ?_
  refine lv_icmp_ge (pc := 5) (tgt := 29) C0.1 C0.2.1 dX10_feed_5 (by decide) (fun c => absurd c (by decide)) (fun _ => ?_)
  refine lv_lload_n (pc := 8) C0.1 C0.2.1 dX10_feed_8 rfl (lv_at hl 2 rfl) ?_
  refine lv_bipush (pc := 9) (v := 8) C0.1 C0.2.1 dX10_feed_9 (by decide) ?_
  refine lv_iload_n (pc := 11) C0.1 C0.2.1 dX10_feed_11 rfl (lv_at hl 0 rfl) ?_
  refine lv_imul (pc := 12) C0.1 C0.2.1 dX10_feed_12 ?_
  refine lv_topi (fun q1 eq1 => ?_)
  obtain rfl : q1 = 0 := eq1.trans (by decide)
  obtain ⟨x2, ex2⟩ : ∃ y : Int64, y = (w.toUInt64 >>> ((0 : Int32).toInt64.toUInt64 &&& Int64.toUInt64 63)).toInt64 := ⟨_, rfl⟩
  refine lv_lushr (pc := 13) (v := x2) C0.1 C0.2.1 dX10_feed_13 (by rw [ex2]) ?_
  refine lv_ldc2 (pc := 14) C0.1 C0.2.1 C0.2.2.2.1 (C0.2.2.2.2.1 _ kl_X10_169) dX10_feed_14 ?_
  refine lv_land (pc := 17) C0.1 C0.2.1 dX10_feed_17 ?_
  refine lv_topl (fun q3 eq3 => ?_)
  obtain rfl : q3 = lN (bt w 0) := by rw [eq3]; rw [ex2, show (0 : Int32) = 8 * nI 0 from by decide]; exact bt_m w (by decide)
  refine lv_lconst (pc := 18) (v := 0) C0.1 C0.2.1 dX10_feed_18 (by decide) ?_
  refine W.lcmp (pc := 19) C0.1 C0.2.1 dX10_feed_19 ?_
  refine lv_if_eq (pc := 20) (tgt := 29) C0.1 C0.2.1 dX10_feed_20 (by decide) (fun z0 => ?_) (fun z0 => ?_)
  · have z0 := lN0 (bt_lb _ _) ((lg_cmp_eq _ _).mp z0)
    refine lv_aload_n (pc := 29) C0.1 C0.2.1 dX10_feed_29 rfl (lv_at hl 1 rfl) ?_
    refine xget (pc := 30) C0 hH 78 12 clX10 ⟨Nat.le_of_ble_eq_true rfl, Nat.le_of_ble_eq_true rfl⟩ ⟨rfl, rfl⟩ (Nat.le_of_ble_eq_true rfl) fl_X10_219 (v := .int 0) (congrArg Value.int hi_78_12) dX10_feed_30 ?_
    refine lv_iload_n (pc := 33) C0.1 C0.2.1 dX10_feed_33 rfl (lv_at hl 0 rfl) ?_
    refine lv_iadd (pc := 34) C0.1 C0.2.1 dX10_feed_34 ?_
    refine lv_topi (fun q4 eq4 => ?_)
    obtain rfl : q4 = 0 := eq4.trans (by decide)
    refine lv_sipush (pc := 35) (v := 600) C0.1 C0.2.1 dX10_feed_35 (by decide) ?_
    refine lv_icmp_le (pc := 38) (tgt := 44) C0.1 C0.2.1 dX10_feed_38 (by decide) (fun _ => ?_) (fun c => absurd (by decide) c)
    refine lv_iconst (pc := 44) (v := 0) C0.1 C0.2.1 dX10_feed_44 (by decide) ?_
    refine lv_istore (pc := 45) (lv' := [(4, .int 0), (3, .int 0), (0, .ref (b + 78)), (1, .long w)]) C0.1 C0.2.1 dX10_feed_45 hl (by decide) rfl (fun ls hl => ?_)
    refine lv_iload (pc := 47) C0.1 C0.2.1 dX10_feed_47 (lv_at hl 0 rfl) ?_
    refine lv_iload_n (pc := 49) C0.1 C0.2.1 dX10_feed_49 rfl (lv_at hl 1 rfl) ?_
    refine lv_icmp_ge (pc := 50) (tgt := 80) C0.1 C0.2.1 dX10_feed_50 (by decide) (fun _ => ?_) (fun c => absurd (by decide) c)
    refine lv_aload_n (pc := 80) C0.1 C0.2.1 dX10_feed_80 rfl (lv_at hl 2 rfl) ?_
    refine lv_dup (pc := 81) C0.1 C0.2.1 dX10_feed_81 rfl ?_
    refine xget (pc := 82) C0 hH 78 12 clX10 ⟨Nat.le_of_ble_eq_true rfl, Nat.le_of_ble_eq_true rfl⟩ ⟨rfl, rfl⟩ (Nat.le_of_ble_eq_true rfl) fl_X10_219 (v := .int 0) (congrArg Value.int hi_78_12) dX10_feed_82 ?_
    refine lv_iload_n (pc := 85) C0.1 C0.2.1 dX10_feed_85 rfl (lv_at hl 1 rfl) ?_
    refine lv_iadd (pc := 86) C0.1 C0.2.1 dX10_feed_86 ?_
    refine lv_topi (fun q5 eq5 => ?_)
    obtain rfl : q5 = 0 := eq5.trans (by decide)
    refine xputI (pc := 87) C0 (Nat.le_of_ble_eq_true rfl) hH hS 78 12 clX10 ⟨Nat.le_of_ble_eq_true rfl, Nat.le_of_ble_eq_true rfl⟩ ⟨rfl, rfl⟩ ⟨Nat.le_of_ble_eq_true rfl, rfl, rfl⟩ fl_X10_219 (x := 0) ⟨rfl, rfl⟩ dX10_feed_87 (fun _ locs hH hS _ => ?_)
    have hH : Hd D tA b 78 52 zz (up2 i 78 12 0) F G _ := hH
    refine lv_aload_n (pc := 90) C0.1 C0.2.1 dX10_feed_90 rfl (lv_at hl 2 rfl) ?_
    refine lv_iconst (pc := 91) (v := 0) C0.1 C0.2.1 dX10_feed_91 (by decide) ?_
    refine xputI (pc := 92) C0 (Nat.le_of_ble_eq_true rfl) hH hS 78 15 clX10 ⟨Nat.le_of_ble_eq_true rfl, Nat.le_of_ble_eq_true rfl⟩ ⟨rfl, rfl⟩ ⟨Nat.le_of_ble_eq_true rfl, rfl, rfl⟩ fl_X10_211 (x := 0) ⟨rfl, rfl⟩ dX10_feed_92 (fun _ locs hH hS _ => ?_)
    have hH : Hd D tA b 78 52 zz (up2 (up2 i 78 12 0) 78 15 0) F G _ := hH
    refine lv_aload_n (pc := 95) C0.1 C0.2.1 dX10_feed_95 rfl (lv_at hl 2 rfl) ?_
    refine xget (pc := 96) C0 hH 78 12 clX10 ⟨Nat.le_of_ble_eq_true rfl, Nat.le_of_ble_eq_true rfl⟩ ⟨rfl, rfl⟩ (Nat.le_of_ble_eq_true rfl) fl_X10_219 (v := .int 0) rfl dX10_feed_96 ?_
    exact xiret (pc := 99) C0 hr hH hS dX10_feed_99 (by rw [show zl w = 0 from by unfold zl; simp only [z0, if_true, if_false]]; rfl)
  · have z0 : ¬ bt w 0 = 0 := fun q => z0 ((lg_cmp_eq _ _).mpr (by rw [q]; rfl))
    refine lv_iinc (pc := 23) (v := 1) (lv' := [(3, .int 1), (0, .ref (b + 78)), (1, .long w)]) C0.1 C0.2.1 dX10_feed_23 hl (k := 0) rfl (by decide) (by decide) rfl (fun ls hl => ?_)
    refine lv_goto (pc := 26) (tgt := 2) C0.1 C0.2.1 dX10_feed_26 (by decide) ?_
    refine lv_iload_n (pc := 2) C0.1 C0.2.1 dX10_feed_2 rfl (lv_at hl 0 rfl) ?_
    refine lv_bipush (pc := 3) (v := 8) C0.1 C0.2.1 dX10_feed_3 (by decide) ?_
    refine lv_icmp_ge (pc := 5) (tgt := 29) C0.1 C0.2.1 dX10_feed_5 (by decide) (fun c => absurd c (by decide)) (fun _ => ?_)
    refine lv_lload_n (pc := 8) C0.1 C0.2.1 dX10_feed_8 rfl (lv_at hl 2 rfl) ?_
    refine lv_bipush (pc := 9) (v := 8) C0.1 C0.2.1 dX10_feed_9 (by decide) ?_
    refine lv_iload_n (pc := 11) C0.1 C0.2.1 dX10_feed_11 rfl (lv_at hl 0 rfl) ?_
    refine lv_imul (pc := 12) C0.1 C0.2.1 dX10_feed_12 ?_
    refine lv_topi (fun q6 eq6 => ?_)
    obtain rfl : q6 = 8 := eq6.trans (by decide)
    obtain ⟨x7, ex7⟩ : ∃ y : Int64, y = (w.toUInt64 >>> ((8 : Int32).toInt64.toUInt64 &&& Int64.toUInt64 63)).toInt64 := ⟨_, rfl⟩
    refine lv_lushr (pc := 13) (v := x7) C0.1 C0.2.1 dX10_feed_13 (by rw [ex7]) ?_
    refine lv_ldc2 (pc := 14) C0.1 C0.2.1 C0.2.2.2.1 (C0.2.2.2.2.1 _ kl_X10_169) dX10_feed_14 ?_
    refine lv_land (pc := 17) C0.1 C0.2.1 dX10_feed_17 ?_
    refine lv_topl (fun q8 eq8 => ?_)
    obtain rfl : q8 = lN (bt w 1) := by rw [eq8]; rw [ex7, show (8 : Int32) = 8 * nI 1 from by decide]; exact bt_m w (by decide)
    refine lv_lconst (pc := 18) (v := 0) C0.1 C0.2.1 dX10_feed_18 (by decide) ?_
    refine W.lcmp (pc := 19) C0.1 C0.2.1 dX10_feed_19 ?_
    refine lv_if_eq (pc := 20) (tgt := 29) C0.1 C0.2.1 dX10_feed_20 (by decide) (fun z1 => ?_) (fun z1 => ?_)
    · have z1 := lN0 (bt_lb _ _) ((lg_cmp_eq _ _).mp z1)
      refine lv_aload_n (pc := 29) C0.1 C0.2.1 dX10_feed_29 rfl (lv_at hl 1 rfl) ?_
      refine xget (pc := 30) C0 hH 78 12 clX10 ⟨Nat.le_of_ble_eq_true rfl, Nat.le_of_ble_eq_true rfl⟩ ⟨rfl, rfl⟩ (Nat.le_of_ble_eq_true rfl) fl_X10_219 (v := .int 0) (congrArg Value.int hi_78_12) dX10_feed_30 ?_
      refine lv_iload_n (pc := 33) C0.1 C0.2.1 dX10_feed_33 rfl (lv_at hl 0 rfl) ?_
      refine lv_iadd (pc := 34) C0.1 C0.2.1 dX10_feed_34 ?_
      refine lv_topi (fun q9 eq9 => ?_)
      obtain rfl : q9 = 1 := eq9.trans (by decide)
      refine lv_sipush (pc := 35) (v := 600) C0.1 C0.2.1 dX10_feed_35 (by decide) ?_
      refine lv_icmp_le (pc := 38) (tgt := 44) C0.1 C0.2.1 dX10_feed_38 (by decide) (fun _ => ?_) (fun c => absurd (by decide) c)
      refine lv_iconst (pc := 44) (v := 0) C0.1 C0.2.1 dX10_feed_44 (by decide) ?_
      refine lv_istore (pc := 45) (lv' := [(4, .int 0), (3, .int 1), (0, .ref (b + 78)), (1, .long w)]) C0.1 C0.2.1 dX10_feed_45 hl (by decide) rfl (fun ls hl => ?_)
      refine lv_iload (pc := 47) C0.1 C0.2.1 dX10_feed_47 (lv_at hl 0 rfl) ?_
      refine lv_iload_n (pc := 49) C0.1 C0.2.1 dX10_feed_49 rfl (lv_at hl 1 rfl) ?_
      refine lv_icmp_ge (pc := 50) (tgt := 80) C0.1 C0.2.1 dX10_feed_50 (by decide) (fun c => absurd c (by decide)) (fun _ => ?_)
      refine lv_aload_n (pc := 53) C0.1 C0.2.1 dX10_feed_53 rfl (lv_at hl 2 rfl) ?_
      refine xget (pc := 54) C0 hH 78 11 clX10 ⟨Nat.le_of_ble_eq_true rfl, Nat.le_of_ble_eq_true rfl⟩ ⟨rfl, rfl⟩ (Nat.le_of_ble_eq_true rfl) fl_X10_29 (v := .ref (b + 85)) rfl dX10_feed_54 ?_
      refine lv_aload_n (pc := 57) C0.1 C0.2.1 dX10_feed_57 rfl (lv_at hl 2 rfl) ?_
      refine xget (pc := 58) C0 hH 78 12 clX10 ⟨Nat.le_of_ble_eq_true rfl, Nat.le_of_ble_eq_true rfl⟩ ⟨rfl, rfl⟩ (Nat.le_of_ble_eq_true rfl) fl_X10_219 (v := .int 0) (congrArg Value.int hi_78_12) dX10_feed_58 ?_
      refine lv_iload (pc := 61) C0.1 C0.2.1 dX10_feed_61 (lv_at hl 0 rfl) ?_
      refine lv_iadd (pc := 63) C0.1 C0.2.1 dX10_feed_63 ?_
      refine lv_topi (fun q10 eq10 => ?_)
      obtain rfl : q10 = 0 := eq10.trans (by decide)
      refine lv_lload_n (pc := 64) C0.1 C0.2.1 dX10_feed_64 rfl (lv_at hl 3 rfl) ?_
      refine lv_bipush (pc := 65) (v := 8) C0.1 C0.2.1 dX10_feed_65 (by decide) ?_
      refine lv_iload (pc := 67) C0.1 C0.2.1 dX10_feed_67 (lv_at hl 0 rfl) ?_
      refine lv_imul (pc := 69) C0.1 C0.2.1 dX10_feed_69 ?_
      refine lv_topi (fun q11 eq11 => ?_)
      obtain rfl : q11 = 0 := eq11.trans (by decide)
      obtain ⟨x12, ex12⟩ : ∃ y : Int64, y = (w.toUInt64 >>> ((0 : Int32).toInt64.toUInt64 &&& Int64.toUInt64 63)).toInt64 := ⟨_, rfl⟩
      refine lv_lushr (pc := 70) (v := x12) C0.1 C0.2.1 dX10_feed_70 (by rw [ex12]) ?_
      refine lv_l2i (pc := 71) (v := x12.toInt32) C0.1 C0.2.1 dX10_feed_71 rfl ?_
      refine lv_i2b (pc := 72) (v := x12.toInt32.toInt8.toInt32) C0.1 C0.2.1 dX10_feed_72 rfl ?_
      refine xbast (pc := 73) (N := 600) C0 (Nat.le_of_ble_eq_true rfl) hH hS 85 ⟨Nat.le_of_ble_eq_true rfl, Nat.le_of_ble_eq_true rfl⟩ ⟨rfl, rfl⟩ (vin (by decide)) dX10_feed_73 (fun _ locs hH hS => ?_)
      have hH : Hd D tA b 78 52 zz i (va_up F 85 (upd (F 85) (Int32.toNatClampNeg 0) (Int8.toInt32 (Int32.toInt8 x12.toInt32.toInt8.toInt32)))) G _ := hH
      refine lv_iinc (pc := 74) (v := 1) (lv' := [(4, .int 1), (3, .int 1), (0, .ref (b + 78)), (1, .long w)]) C0.1 C0.2.1 dX10_feed_74 hl (k := 0) rfl (by decide) (by decide) rfl (fun ls hl => ?_)
      refine lv_goto (pc := 77) (tgt := 47) C0.1 C0.2.1 dX10_feed_77 (by decide) ?_
      refine lv_iload (pc := 47) C0.1 C0.2.1 dX10_feed_47 (lv_at hl 0 rfl) ?_
      refine lv_iload_n (pc := 49) C0.1 C0.2.1 dX10_feed_49 rfl (lv_at hl 1 rfl) ?_
      refine lv_icmp_ge (pc := 50) (tgt := 80) C0.1 C0.2.1 dX10_feed_50 (by decide) (fun _ => ?_) (fun c => absurd (by decide) c)
      refine lv_aload_n (pc := 80) C0.1 C0.2.1 dX10_feed_80 rfl (lv_at hl 2 rfl) ?_
      refine lv_dup (pc := 81) C0.1 C0.2.1 dX10_feed_81 rfl ?_
      refine xget (pc := 82) C0 hH 78 12 clX10 ⟨Nat.le_of_ble_eq_true rfl, Nat.le_of_ble_eq_true rfl⟩ ⟨rfl, rfl⟩ (Nat.le_of_ble_eq_true rfl) fl_X10_219 (v := .int 0) (congrArg Value.int hi_78_12) dX10_feed_82 ?_
      refine lv_iload_n (pc := 85) C0.1 C0.2.1 dX10_feed_85 rfl (lv_at hl 1 rfl) ?_
      refine lv_iadd (pc := 86) C0.1 C0.2.1 dX10_feed_86 ?_
      refine lv_topi (fun q13 eq13 => ?_)
      obtain rfl : q13 = 1 := eq13.trans (by decide)
      refine xputI (pc := 87) C0 (Nat.le_of_ble_eq_true rfl) hH hS 78 12 clX10 ⟨Nat.le_of_ble_eq_true rfl, Nat.le_of_ble_eq_true rfl⟩ ⟨rfl, rfl⟩ ⟨Nat.le_of_ble_eq_true rfl, rfl, rfl⟩ fl_X10_219 (x := 1) ⟨rfl, rfl⟩ dX10_feed_87 (fun _ locs hH hS _ => ?_)
      have hH : Hd D tA b 78 52 zz (up2 i 78 12 1) (va_up F 85 (upd (F 85) (Int32.toNatClampNeg 0) (Int8.toInt32 (Int32.toInt8 x12.toInt32.toInt8.toInt32)))) G _ := hH
      refine lv_aload_n (pc := 90) C0.1 C0.2.1 dX10_feed_90 rfl (lv_at hl 2 rfl) ?_
      refine lv_iconst (pc := 91) (v := 0) C0.1 C0.2.1 dX10_feed_91 (by decide) ?_
      refine xputI (pc := 92) C0 (Nat.le_of_ble_eq_true rfl) hH hS 78 15 clX10 ⟨Nat.le_of_ble_eq_true rfl, Nat.le_of_ble_eq_true rfl⟩ ⟨rfl, rfl⟩ ⟨Nat.le_of_ble_eq_true rfl, rfl, rfl⟩ fl_X10_211 (x := 0) ⟨rfl, rfl⟩ dX10_feed_92 (fun _ locs hH hS _ => ?_)
      have hH : Hd D tA b 78 52 zz (up2 (up2 i 78 12 1) 78 15 0) (va_up F 85 (upd (F 85) (Int32.toNatClampNeg 0) (Int8.toInt32 (Int32.toInt8 x12.toInt32.toInt8.toInt32)))) G _ := hH
      refine lv_aload_n (pc := 95) C0.1 C0.2.1 dX10_feed_95 rfl (lv_at hl 2 rfl) ?_
      refine xget (pc := 96) C0 hH 78 12 clX10 ⟨Nat.le_of_ble_eq_true rfl, Nat.le_of_ble_eq_true rfl⟩ ⟨rfl, rfl⟩ (Nat.le_of_ble_eq_true rfl) fl_X10_219 (v := .int 1) rfl dX10_feed_96 ?_
      exact xiret (pc := 99) C0 hr hH hS dX10_feed_99 (by rw [show zl w = 1 from by unfold zl; simp only [z0, z1, if_true, if_false]]; rfl)
    · have z1 : ¬ bt w 1 = 0 := fun q => z1 ((lg_cmp_eq _ _).mpr (by rw [q]; rfl))
      refine lv_iinc (pc := 23) (v := 2) (lv' := [(3, .int 2), (0, .ref (b + 78)), (1, .long w)]) C0.1 C0.2.1 dX10_feed_23 hl (k := 0) rfl (by decide) (by decide) rfl (fun ls hl => ?_)
      refine lv_goto (pc := 26) (tgt := 2) C0.1 C0.2.1 dX10_feed_26 (by decide) ?_
      refine lv_iload_n (pc := 2) C0.1 C0.2.1 dX10_feed_2 rfl (lv_at hl 0 rfl) ?_
      refine lv_bipush (pc := 3) (v := 8) C0.1 C0.2.1 dX10_feed_3 (by decide) ?_
      refine lv_icmp_ge (pc := 5) (tgt := 29) C0.1 C0.2.1 dX10_feed_5 (by decide) (fun c => absurd c (by decide)) (fun _ => ?_)
      refine lv_lload_n (pc := 8) C0.1 C0.2.1 dX10_feed_8 rfl (lv_at hl 2 rfl) ?_
      refine lv_bipush (pc := 9) (v := 8) C0.1 C0.2.1 dX10_feed_9 (by decide) ?_
      refine lv_iload_n (pc := 11) C0.1 C0.2.1 dX10_feed_11 rfl (lv_at hl 0 rfl) ?_
      refine lv_imul (pc := 12) C0.1 C0.2.1 dX10_feed_12 ?_
      refine lv_topi (fun q14 eq14 => ?_)
      obtain rfl : q14 = 16 := eq14.trans (by decide)
      obtain ⟨x15, ex15⟩ : ∃ y : Int64, y = (w.toUInt64 >>> ((16 : Int32).toInt64.toUInt64 &&& Int64.toUInt64 63)).toInt64 := ⟨_, rfl⟩
      refine lv_lushr (pc := 13) (v := x15) C0.1 C0.2.1 dX10_feed_13 (by rw [ex15]) ?_
      refine lv_ldc2 (pc := 14) C0.1 C0.2.1 C0.2.2.2.1 (C0.2.2.2.2.1 _ kl_X10_169) dX10_feed_14 ?_
      refine lv_land (pc := 17) C0.1 C0.2.1 dX10_feed_17 ?_
      refine lv_topl (fun q16 eq16 => ?_)
      obtain rfl : q16 = lN (bt w 2) := by rw [eq16]; rw [ex15, show (16 : Int32) = 8 * nI 2 from by decide]; exact bt_m w (by decide)
      refine lv_lconst (pc := 18) (v := 0) C0.1 C0.2.1 dX10_feed_18 (by decide) ?_
      refine W.lcmp (pc := 19) C0.1 C0.2.1 dX10_feed_19 ?_
      refine lv_if_eq (pc := 20) (tgt := 29) C0.1 C0.2.1 dX10_feed_20 (by decide) (fun z2 => ?_) (fun z2 => ?_)
      · have z2 := lN0 (bt_lb _ _) ((lg_cmp_eq _ _).mp z2)
        refine lv_aload_n (pc := 29) C0.1 C0.2.1 dX10_feed_29 rfl (lv_at hl 1 rfl) ?_
        refine xget (pc := 30) C0 hH 78 12 clX10 ⟨Nat.le_of_ble_eq_true rfl, Nat.le_of_ble_eq_true rfl⟩ ⟨rfl, rfl⟩ (Nat.le_of_ble_eq_true rfl) fl_X10_219 (v := .int 0) (congrArg Value.int hi_78_12) dX10_feed_30 ?_
        refine lv_iload_n (pc := 33) C0.1 C0.2.1 dX10_feed_33 rfl (lv_at hl 0 rfl) ?_
        refine lv_iadd (pc := 34) C0.1 C0.2.1 dX10_feed_34 ?_
        refine lv_topi (fun q17 eq17 => ?_)
        obtain rfl : q17 = 2 := eq17.trans (by decide)
        refine lv_sipush (pc := 35) (v := 600) C0.1 C0.2.1 dX10_feed_35 (by decide) ?_
        refine lv_icmp_le (pc := 38) (tgt := 44) C0.1 C0.2.1 dX10_feed_38 (by decide) (fun _ => ?_) (fun c => absurd (by decide) c)
        refine lv_iconst (pc := 44) (v := 0) C0.1 C0.2.1 dX10_feed_44 (by decide) ?_
        refine lv_istore (pc := 45) (lv' := [(4, .int 0), (3, .int 2), (0, .ref (b + 78)), (1, .long w)]) C0.1 C0.2.1 dX10_feed_45 hl (by decide) rfl (fun ls hl => ?_)
        refine lv_iload (pc := 47) C0.1 C0.2.1 dX10_feed_47 (lv_at hl 0 rfl) ?_
        refine lv_iload_n (pc := 49) C0.1 C0.2.1 dX10_feed_49 rfl (lv_at hl 1 rfl) ?_
        refine lv_icmp_ge (pc := 50) (tgt := 80) C0.1 C0.2.1 dX10_feed_50 (by decide) (fun c => absurd c (by decide)) (fun _ => ?_)
        refine lv_aload_n (pc := 53) C0.1 C0.2.1 dX10_feed_53 rfl (lv_at hl 2 rfl) ?_
        refine xget (pc := 54) C0 hH 78 11 clX10 ⟨Nat.le_of_ble_eq_true rfl, Nat.le_of_ble_eq_true rfl⟩ ⟨rfl, rfl⟩ (Nat.le_of_ble_eq_true rfl) fl_X10_29 (v := .ref (b + 85)) rfl dX10_feed_54 ?_
        refine lv_aload_n (pc := 57) C0.1 C0.2.1 dX10_feed_57 rfl (lv_at hl 2 rfl) ?_
        refine xget (pc := 58) C0 hH 78 12 clX10 ⟨Nat.le_of_ble_eq_true rfl, Nat.le_of_ble_eq_true rfl⟩ ⟨rfl, rfl⟩ (Nat.le_of_ble_eq_true rfl) fl_X10_219 (v := .int 0) (congrArg Value.int hi_78_12) dX10_feed_58 ?_
        refine lv_iload (pc := 61) C0.1 C0.2.1 dX10_feed_61 (lv_at hl 0 rfl) ?_
        refine lv_iadd (pc := 63) C0.1 C0.2.1 dX10_feed_63 ?_
        refine lv_topi (fun q18 eq18 => ?_)
        obtain rfl : q18 = 0 := eq18.trans (by decide)
        refine lv_lload_n (pc := 64) C0.1 C0.2.1 dX10_feed_64 rfl (lv_at hl 3 rfl) ?_
        refine lv_bipush (pc := 65) (v := 8) C0.1 C0.2.1 dX10_feed_65 (by decide) ?_
        refine lv_iload (pc := 67) C0.1 C0.2.1 dX10_feed_67 (lv_at hl 0 rfl) ?_
        refine lv_imul (pc := 69) C0.1 C0.2.1 dX10_feed_69 ?_
        refine lv_topi (fun q19 eq19 => ?_)
        obtain rfl : q19 = 0 := eq19.trans (by decide)
        obtain ⟨x20, ex20⟩ : ∃ y : Int64, y = (w.toUInt64 >>> ((0 : Int32).toInt64.toUInt64 &&& Int64.toUInt64 63)).toInt64 := ⟨_, rfl⟩
        refine lv_lushr (pc := 70) (v := x20) C0.1 C0.2.1 dX10_feed_70 (by rw [ex20]) ?_
        refine lv_l2i (pc := 71) (v := x20.toInt32) C0.1 C0.2.1 dX10_feed_71 rfl ?_
        refine lv_i2b (pc := 72) (v := x20.toInt32.toInt8.toInt32) C0.1 C0.2.1 dX10_feed_72 rfl ?_
        refine xbast (pc := 73) (N := 600) C0 (Nat.le_of_ble_eq_true rfl) hH hS 85 ⟨Nat.le_of_ble_eq_true rfl, Nat.le_of_ble_eq_true rfl⟩ ⟨rfl, rfl⟩ (vin (by decide)) dX10_feed_73 (fun _ locs hH hS => ?_)
        have hH : Hd D tA b 78 52 zz i (va_up F 85 (upd (F 85) (Int32.toNatClampNeg 0) (Int8.toInt32 (Int32.toInt8 x20.toInt32.toInt8.toInt32)))) G _ := hH
        refine lv_iinc (pc := 74) (v := 1) (lv' := [(4, .int 1), (3, .int 2), (0, .ref (b + 78)), (1, .long w)]) C0.1 C0.2.1 dX10_feed_74 hl (k := 0) rfl (by decide) (by decide) rfl (fun ls hl => ?_)
        refine lv_goto (pc := 77) (tgt := 47) C0.1 C0.2.1 dX10_feed_77 (by decide) ?_
        refine lv_iload (pc := 47) C0.1 C0.2.1 dX10_feed_47 (lv_at hl 0 rfl) ?_
        refine lv_iload_n (pc := 49) C0.1 C0.2.1 dX10_feed_49 rfl (lv_at hl 1 rfl) ?_
        refine lv_icmp_ge (pc := 50) (tgt := 80) C0.1 C0.2.1 dX10_feed_50 (by decide) (fun c => absurd c (by decide)) (fun _ => ?_)
        refine lv_aload_n (pc := 53) C0.1 C0.2.1 dX10_feed_53 rfl (lv_at hl 2 rfl) ?_
        refine xget (pc := 54) C0 hH 78 11 clX10 ⟨Nat.le_of_ble_eq_true rfl, Nat.le_of_ble_eq_true rfl⟩ ⟨rfl, rfl⟩ (Nat.le_of_ble_eq_true rfl) fl_X10_29 (v := .ref (b + 85)) rfl dX10_feed_54 ?_
        refine lv_aload_n (pc := 57) C0.1 C0.2.1 dX10_feed_57 rfl (lv_at hl 2 rfl) ?_
        refine xget (pc := 58) C0 hH 78 12 clX10 ⟨Nat.le_of_ble_eq_true rfl, Nat.le_of_ble_eq_true rfl⟩ ⟨rfl, rfl⟩ (Nat.le_of_ble_eq_true rfl) fl_X10_219 (v := .int 0) (congrArg Value.int hi_78_12) dX10_feed_58 ?_
        refine lv_iload (pc := 61) C0.1 C0.2.1 dX10_feed_61 (lv_at hl 0 rfl) ?_
        refine lv_iadd (pc := 63) C0.1 C0.2.1 dX10_feed_63 ?_
        refine lv_topi (fun q21 eq21 => ?_)
        obtain rfl : q21 = 1 := eq21.trans (by decide)
        refine lv_lload_n (pc := 64) C0.1 C0.2.1 dX10_feed_64 rfl (lv_at hl 3 rfl) ?_
        refine lv_bipush (pc := 65) (v := 8) C0.1 C0.2.1 dX10_feed_65 (by decide) ?_
        refine lv_iload (pc := 67) C0.1 C0.2.1 dX10_feed_67 (lv_at hl 0 rfl) ?_
        refine lv_imul (pc := 69) C0.1 C0.2.1 dX10_feed_69 ?_
        refine lv_topi (fun q22 eq22 => ?_)
        obtain rfl : q22 = 8 := eq22.trans (by decide)
        obtain ⟨x23, ex23⟩ : ∃ y : Int64, y = (w.toUInt64 >>> ((8 : Int32).toInt64.toUInt64 &&& Int64.toUInt64 63)).toInt64 := ⟨_, rfl⟩
        refine lv_lushr (pc := 70) (v := x23) C0.1 C0.2.1 dX10_feed_70 (by rw [ex23]) ?_
        refine lv_l2i (pc := 71) (v := x23.toInt32) C0.1 C0.2.1 dX10_feed_71 rfl ?_
        refine lv_i2b (pc := 72) (v := x23.toInt32.toInt8.toInt32) C0.1 C0.2.1 dX10_feed_72 rfl ?_
        refine xbast (pc := 73) (N := 600) C0 (Nat.le_of_ble_eq_true rfl) hH hS 85 ⟨Nat.le_of_ble_eq_true rfl, Nat.le_of_ble_eq_true rfl⟩ ⟨rfl, rfl⟩ (vin (by decide)) dX10_feed_73 (fun _ locs hH hS => ?_)
        have hH : Hd D tA b 78 52 zz i (va_up (va_up F 85 (upd (F 85) (Int32.toNatClampNeg 0) (Int8.toInt32 (Int32.toInt8 x20.toInt32.toInt8.toInt32)))) 85 (upd (upd (F 85) (Int32.toNatClampNeg 0) (Int8.toInt32 (Int32.toInt8 x20.toInt32.toInt8.toInt32))) (Int32.toNatClampNeg 1) (Int8.toInt32 (Int32.toInt8 x23.toInt32.toInt8.toInt32)))) G _ := hH
        refine lv_iinc (pc := 74) (v := 2) (lv' := [(4, .int 2), (3, .int 2), (0, .ref (b + 78)), (1, .long w)]) C0.1 C0.2.1 dX10_feed_74 hl (k := 0) rfl (by decide) (by decide) rfl (fun ls hl => ?_)
        refine lv_goto (pc := 77) (tgt := 47) C0.1 C0.2.1 dX10_feed_77 (by decide) ?_
        refine lv_iload (pc := 47) C0.1 C0.2.1 dX10_feed_47 (lv_at hl 0 rfl) ?_
        refine lv_iload_n (pc := 49) C0.1 C0.2.1 dX10_feed_49 rfl (lv_at hl 1 rfl) ?_
        refine lv_icmp_ge (pc := 50) (tgt := 80) C0.1 C0.2.1 dX10_feed_50 (by decide) (fun _ => ?_) (fun c => absurd (by decide) c)
        refine lv_aload_n (pc := 80) C0.1 C0.2.1 dX10_feed_80 rfl (lv_at hl 2 rfl) ?_
        refine lv_dup (pc := 81) C0.1 C0.2.1 dX10_feed_81 rfl ?_
        refine xget (pc := 82) C0 hH 78 12 clX10 ⟨Nat.le_of_ble_eq_true rfl, Nat.le_of_ble_eq_true rfl⟩ ⟨rfl, rfl⟩ (Nat.le_of_ble_eq_true rfl) fl_X10_219 (v := .int 0) (congrArg Value.int hi_78_12) dX10_feed_82 ?_
        refine lv_iload_n (pc := 85) C0.1 C0.2.1 dX10_feed_85 rfl (lv_at hl 1 rfl) ?_
        refine lv_iadd (pc := 86) C0.1 C0.2.1 dX10_feed_86 ?_
        refine lv_topi (fun q24 eq24 => ?_)
        obtain rfl : q24 = 2 := eq24.trans (by decide)
        refine xputI (pc := 87) C0 (Nat.le_of_ble_eq_true rfl) hH hS 78 12 clX10 ⟨Nat.le_of_ble_eq_true rfl, Nat.le_of_ble_eq_true rfl⟩ ⟨rfl, rfl⟩ ⟨Nat.le_of_ble_eq_true rfl, rfl, rfl⟩ fl_X10_219 (x := 2) ⟨rfl, rfl⟩ dX10_feed_87 (fun _ locs hH hS _ => ?_)
        have hH : Hd D tA b 78 52 zz (up2 i 78 12 2) (va_up (va_up F 85 (upd (F 85) (Int32.toNatClampNeg 0) (Int8.toInt32 (Int32.toInt8 x20.toInt32.toInt8.toInt32)))) 85 (upd (upd (F 85) (Int32.toNatClampNeg 0) (Int8.toInt32 (Int32.toInt8 x20.toInt32.toInt8.toInt32))) (Int32.toNatClampNeg 1) (Int8.toInt32 (Int32.toInt8 x23.toInt32.toInt8.toInt32)))) G _ := hH
        refine lv_aload_n (pc := 90) C0.1 C0.2.1 dX10_feed_90 rfl (lv_at hl 2 rfl) ?_
        refine lv_iconst (pc := 91) (v := 0) C0.1 C0.2.1 dX10_feed_91 (by decide) ?_
        refine xputI (pc := 92) C0 (Nat.le_of_ble_eq_true rfl) hH hS 78 15 clX10 ⟨Nat.le_of_ble_eq_true rfl, Nat.le_of_ble_eq_true rfl⟩ ⟨rfl, rfl⟩ ⟨Nat.le_of_ble_eq_true rfl, rfl, rfl⟩ fl_X10_211 (x := 0) ⟨rfl, rfl⟩ dX10_feed_92 (fun _ locs hH hS _ => ?_)
        have hH : Hd D tA b 78 52 zz (up2 (up2 i 78 12 2) 78 15 0) (va_up (va_up F 85 (upd (F 85) (Int32.toNatClampNeg 0) (Int8.toInt32 (Int32.toInt8 x20.toInt32.toInt8.toInt32)))) 85 (upd (upd (F 85) (Int32.toNatClampNeg 0) (Int8.toInt32 (Int32.toInt8 x20.toInt32.toInt8.toInt32))) (Int32.toNatClampNeg 1) (Int8.toInt32 (Int32.toInt8 x23.toInt32.toInt8.toInt32)))) G _ := hH
        refine lv_aload_n (pc := 95) C0.1 C0.2.1 dX10_feed_95 rfl (lv_at hl 2 rfl) ?_
        refine xget (pc := 96) C0 hH 78 12 clX10 ⟨Nat.le_of_ble_eq_true rfl, Nat.le_of_ble_eq_true rfl⟩ ⟨rfl, rfl⟩ (Nat.le_of_ble_eq_true rfl) fl_X10_219 (v := .int 2) rfl dX10_feed_96 ?_
        exact xiret (pc := 99) C0 hr hH hS dX10_feed_99 (by rw [show zl w = 2 from by unfold zl; simp only [z0, z1, z2, if_true, if_false]]; rfl)
      · have z2 : ¬ bt w 2 = 0 := fun q => z2 ((lg_cmp_eq _ _).mpr (by rw [q]; rfl))
        refine lv_iinc (pc := 23) (v := 3) (lv' := [(3, .int 3), (0, .ref (b + 78)), (1, .long w)]) C0.1 C0.2.1 dX10_feed_23 hl (k := 0) rfl (by decide) (by decide) rfl (fun ls hl => ?_)
        refine lv_goto (pc := 26) (tgt := 2) C0.1 C0.2.1 dX10_feed_26 (by decide) ?_
        refine lv_iload_n (pc := 2) C0.1 C0.2.1 dX10_feed_2 rfl (lv_at hl 0 rfl) ?_
        refine lv_bipush (pc := 3) (v := 8) C0.1 C0.2.1 dX10_feed_3 (by decide) ?_
        refine lv_icmp_ge (pc := 5) (tgt := 29) C0.1 C0.2.1 dX10_feed_5 (by decide) (fun c => absurd c (by decide)) (fun _ => ?_)
        refine lv_lload_n (pc := 8) C0.1 C0.2.1 dX10_feed_8 rfl (lv_at hl 2 rfl) ?_
        refine lv_bipush (pc := 9) (v := 8) C0.1 C0.2.1 dX10_feed_9 (by decide) ?_
        refine lv_iload_n (pc := 11) C0.1 C0.2.1 dX10_feed_11 rfl (lv_at hl 0 rfl) ?_
        refine lv_imul (pc := 12) C0.1 C0.2.1 dX10_feed_12 ?_
        refine lv_topi (fun q25 eq25 => ?_)
        obtain rfl : q25 = 24 := eq25.trans (by decide)
        obtain ⟨x26, ex26⟩ : ∃ y : Int64, y = (w.toUInt64 >>> ((24 : Int32).toInt64.toUInt64 &&& Int64.toUInt64 63)).toInt64 := ⟨_, rfl⟩
        refine lv_lushr (pc := 13) (v := x26) C0.1 C0.2.1 dX10_feed_13 (by rw [ex26]) ?_
        refine lv_ldc2 (pc := 14) C0.1 C0.2.1 C0.2.2.2.1 (C0.2.2.2.2.1 _ kl_X10_169) dX10_feed_14 ?_
        refine lv_land (pc := 17) C0.1 C0.2.1 dX10_feed_17 ?_
        refine lv_topl (fun q27 eq27 => ?_)
        obtain rfl : q27 = lN (bt w 3) := by rw [eq27]; rw [ex26, show (24 : Int32) = 8 * nI 3 from by decide]; exact bt_m w (by decide)
        refine lv_lconst (pc := 18) (v := 0) C0.1 C0.2.1 dX10_feed_18 (by decide) ?_
        refine W.lcmp (pc := 19) C0.1 C0.2.1 dX10_feed_19 ?_
        refine lv_if_eq (pc := 20) (tgt := 29) C0.1 C0.2.1 dX10_feed_20 (by decide) (fun z3 => ?_) (fun z3 => ?_)
        · have z3 := lN0 (bt_lb _ _) ((lg_cmp_eq _ _).mp z3)
          refine lv_aload_n (pc := 29) C0.1 C0.2.1 dX10_feed_29 rfl (lv_at hl 1 rfl) ?_
          refine xget (pc := 30) C0 hH 78 12 clX10 ⟨Nat.le_of_ble_eq_true rfl, Nat.le_of_ble_eq_true rfl⟩ ⟨rfl, rfl⟩ (Nat.le_of_ble_eq_true rfl) fl_X10_219 (v := .int 0) (congrArg Value.int hi_78_12) dX10_feed_30 ?_
          refine lv_iload_n (pc := 33) C0.1 C0.2.1 dX10_feed_33 rfl (lv_at hl 0 rfl) ?_
          refine lv_iadd (pc := 34) C0.1 C0.2.1 dX10_feed_34 ?_
          refine lv_topi (fun q28 eq28 => ?_)
          obtain rfl : q28 = 3 := eq28.trans (by decide)
          refine lv_sipush (pc := 35) (v := 600) C0.1 C0.2.1 dX10_feed_35 (by decide) ?_
          refine lv_icmp_le (pc := 38) (tgt := 44) C0.1 C0.2.1 dX10_feed_38 (by decide) (fun _ => ?_) (fun c => absurd (by decide) c)
          refine lv_iconst (pc := 44) (v := 0) C0.1 C0.2.1 dX10_feed_44 (by decide) ?_
          refine lv_istore (pc := 45) (lv' := [(4, .int 0), (3, .int 3), (0, .ref (b + 78)), (1, .long w)]) C0.1 C0.2.1 dX10_feed_45 hl (by decide) rfl (fun ls hl => ?_)
          refine lv_iload (pc := 47) C0.1 C0.2.1 dX10_feed_47 (lv_at hl 0 rfl) ?_
          refine lv_iload_n (pc := 49) C0.1 C0.2.1 dX10_feed_49 rfl (lv_at hl 1 rfl) ?_
          refine lv_icmp_ge (pc := 50) (tgt := 80) C0.1 C0.2.1 dX10_feed_50 (by decide) (fun c => absurd c (by decide)) (fun _ => ?_)
          refine lv_aload_n (pc := 53) C0.1 C0.2.1 dX10_feed_53 rfl (lv_at hl 2 rfl) ?_
          refine xget (pc := 54) C0 hH 78 11 clX10 ⟨Nat.le_of_ble_eq_true rfl, Nat.le_of_ble_eq_true rfl⟩ ⟨rfl, rfl⟩ (Nat.le_of_ble_eq_true rfl) fl_X10_29 (v := .ref (b + 85)) rfl dX10_feed_54 ?_
          refine lv_aload_n (pc := 57) C0.1 C0.2.1 dX10_feed_57 rfl (lv_at hl 2 rfl) ?_
          refine xget (pc := 58) C0 hH 78 12 clX10 ⟨Nat.le_of_ble_eq_true rfl, Nat.le_of_ble_eq_true rfl⟩ ⟨rfl, rfl⟩ (Nat.le_of_ble_eq_true rfl) fl_X10_219 (v := .int 0) (congrArg Value.int hi_78_12) dX10_feed_58 ?_
          refine lv_iload (pc := 61) C0.1 C0.2.1 dX10_feed_61 (lv_at hl 0 rfl) ?_
          refine lv_iadd (pc := 63) C0.1 C0.2.1 dX10_feed_63 ?_
          refine lv_topi (fun q29 eq29 => ?_)
          obtain rfl : q29 = 0 := eq29.trans (by decide)
          refine lv_lload_n (pc := 64) C0.1 C0.2.1 dX10_feed_64 rfl (lv_at hl 3 rfl) ?_
          refine lv_bipush (pc := 65) (v := 8) C0.1 C0.2.1 dX10_feed_65 (by decide) ?_
          refine lv_iload (pc := 67) C0.1 C0.2.1 dX10_feed_67 (lv_at hl 0 rfl) ?_
          refine lv_imul (pc := 69) C0.1 C0.2.1 dX10_feed_69 ?_
          refine lv_topi (fun q30 eq30 => ?_)
          obtain rfl : q30 = 0 := eq30.trans (by decide)
          obtain ⟨x31, ex31⟩ : ∃ y : Int64, y = (w.toUInt64 >>> ((0 : Int32).toInt64.toUInt64 &&& Int64.toUInt64 63)).toInt64 := ⟨_, rfl⟩
          refine lv_lushr (pc := 70) (v := x31) C0.1 C0.2.1 dX10_feed_70 (by rw [ex31]) ?_
          refine lv_l2i (pc := 71) (v := x31.toInt32) C0.1 C0.2.1 dX10_feed_71 rfl ?_
          refine lv_i2b (pc := 72) (v := x31.toInt32.toInt8.toInt32) C0.1 C0.2.1 dX10_feed_72 rfl ?_
          refine xbast (pc := 73) (N := 600) C0 (Nat.le_of_ble_eq_true rfl) hH hS 85 ⟨Nat.le_of_ble_eq_true rfl, Nat.le_of_ble_eq_true rfl⟩ ⟨rfl, rfl⟩ (vin (by decide)) dX10_feed_73 (fun _ locs hH hS => ?_)
          have hH : Hd D tA b 78 52 zz i (va_up F 85 (upd (F 85) (Int32.toNatClampNeg 0) (Int8.toInt32 (Int32.toInt8 x31.toInt32.toInt8.toInt32)))) G _ := hH
          refine lv_iinc (pc := 74) (v := 1) (lv' := [(4, .int 1), (3, .int 3), (0, .ref (b + 78)), (1, .long w)]) C0.1 C0.2.1 dX10_feed_74 hl (k := 0) rfl (by decide) (by decide) rfl (fun ls hl => ?_)
          refine lv_goto (pc := 77) (tgt := 47) C0.1 C0.2.1 dX10_feed_77 (by decide) ?_
          refine lv_iload (pc := 47) C0.1 C0.2.1 dX10_feed_47 (lv_at hl 0 rfl) ?_
          refine lv_iload_n (pc := 49) C0.1 C0.2.1 dX10_feed_49 rfl (lv_at hl 1 rfl) ?_
          refine lv_icmp_ge (pc := 50) (tgt := 80) C0.1 C0.2.1 dX10_feed_50 (by decide) (fun c => absurd c (by decide)) (fun _ => ?_)
          refine lv_aload_n (pc := 53) C0.1 C0.2.1 dX10_feed_53 rfl (lv_at hl 2 rfl) ?_
          refine xget (pc := 54) C0 hH 78 11 clX10 ⟨Nat.le_of_ble_eq_true rfl, Nat.le_of_ble_eq_true rfl⟩ ⟨rfl, rfl⟩ (Nat.le_of_ble_eq_true rfl) fl_X10_29 (v := .ref (b + 85)) rfl dX10_feed_54 ?_
          refine lv_aload_n (pc := 57) C0.1 C0.2.1 dX10_feed_57 rfl (lv_at hl 2 rfl) ?_
          refine xget (pc := 58) C0 hH 78 12 clX10 ⟨Nat.le_of_ble_eq_true rfl, Nat.le_of_ble_eq_true rfl⟩ ⟨rfl, rfl⟩ (Nat.le_of_ble_eq_true rfl) fl_X10_219 (v := .int 0) (congrArg Value.int hi_78_12) dX10_feed_58 ?_
          refine lv_iload (pc := 61) C0.1 C0.2.1 dX10_feed_61 (lv_at hl 0 rfl) ?_
          refine lv_iadd (pc := 63) C0.1 C0.2.1 dX10_feed_63 ?_
          refine lv_topi (fun q32 eq32 => ?_)
          obtain rfl : q32 = 1 := eq32.trans (by decide)
          refine lv_lload_n (pc := 64) C0.1 C0.2.1 dX10_feed_64 rfl (lv_at hl 3 rfl) ?_
          refine lv_bipush (pc := 65) (v := 8) C0.1 C0.2.1 dX10_feed_65 (by decide) ?_
          refine lv_iload (pc := 67) C0.1 C0.2.1 dX10_feed_67 (lv_at hl 0 rfl) ?_
          refine lv_imul (pc := 69) C0.1 C0.2.1 dX10_feed_69 ?_
          refine lv_topi (fun q33 eq33 => ?_)
          obtain rfl : q33 = 8 := eq33.trans (by decide)
          obtain ⟨x34, ex34⟩ : ∃ y : Int64, y = (w.toUInt64 >>> ((8 : Int32).toInt64.toUInt64 &&& Int64.toUInt64 63)).toInt64 := ⟨_, rfl⟩
          refine lv_lushr (pc := 70) (v := x34) C0.1 C0.2.1 dX10_feed_70 (by rw [ex34]) ?_
          refine lv_l2i (pc := 71) (v := x34.toInt32) C0.1 C0.2.1 dX10_feed_71 rfl ?_
          refine lv_i2b (pc := 72) (v := x34.toInt32.toInt8.toInt32) C0.1 C0.2.1 dX10_feed_72 rfl ?_
          refine xbast (pc := 73) (N := 600) C0 (Nat.le_of_ble_eq_true rfl) hH hS 85 ⟨Nat.le_of_ble_eq_true rfl, Nat.le_of_ble_eq_true rfl⟩ ⟨rfl, rfl⟩ (vin (by decide)) dX10_feed_73 (fun _ locs hH hS => ?_)
          have hH : Hd D tA b 78 52 zz i (va_up (va_up F 85 (upd (F 85) (Int32.toNatClampNeg 0) (Int8.toInt32 (Int32.toInt8 x31.toInt32.toInt8.toInt32)))) 85 (upd (upd (F 85) (Int32.toNatClampNeg 0) (Int8.toInt32 (Int32.toInt8 x31.toInt32.toInt8.toInt32))) (Int32.toNatClampNeg 1) (Int8.toInt32 (Int32.toInt8 x34.toInt32.toInt8.toInt32)))) G _ := hH
          refine lv_iinc (pc := 74) (v := 2) (lv' := [(4, .int 2), (3, .int 3), (0, .ref (b + 78)), (1, .long w)]) C0.1 C0.2.1 dX10_feed_74 hl (k := 0) rfl (by decide) (by decide) rfl (fun ls hl => ?_)
          refine lv_goto (pc := 77) (tgt := 47) C0.1 C0.2.1 dX10_feed_77 (by decide) ?_
          refine lv_iload (pc := 47) C0.1 C0.2.1 dX10_feed_47 (lv_at hl 0 rfl) ?_
          refine lv_iload_n (pc := 49) C0.1 C0.2.1 dX10_feed_49 rfl (lv_at hl 1 rfl) ?_
          refine lv_icmp_ge (pc := 50) (tgt := 80) C0.1 C0.2.1 dX10_feed_50 (by decide) (fun c => absurd c (by decide)) (fun _ => ?_)
          refine lv_aload_n (pc := 53) C0.1 C0.2.1 dX10_feed_53 rfl (lv_at hl 2 rfl) ?_
          refine xget (pc := 54) C0 hH 78 11 clX10 ⟨Nat.le_of_ble_eq_true rfl, Nat.le_of_ble_eq_true rfl⟩ ⟨rfl, rfl⟩ (Nat.le_of_ble_eq_true rfl) fl_X10_29 (v := .ref (b + 85)) rfl dX10_feed_54 ?_
          refine lv_aload_n (pc := 57) C0.1 C0.2.1 dX10_feed_57 rfl (lv_at hl 2 rfl) ?_
          refine xget (pc := 58) C0 hH 78 12 clX10 ⟨Nat.le_of_ble_eq_true rfl, Nat.le_of_ble_eq_true rfl⟩ ⟨rfl, rfl⟩ (Nat.le_of_ble_eq_true rfl) fl_X10_219 (v := .int 0) (congrArg Value.int hi_78_12) dX10_feed_58 ?_
          refine lv_iload (pc := 61) C0.1 C0.2.1 dX10_feed_61 (lv_at hl 0 rfl) ?_
          refine lv_iadd (pc := 63) C0.1 C0.2.1 dX10_feed_63 ?_
          refine lv_topi (fun q35 eq35 => ?_)
          obtain rfl : q35 = 2 := eq35.trans (by decide)
          refine lv_lload_n (pc := 64) C0.1 C0.2.1 dX10_feed_64 rfl (lv_at hl 3 rfl) ?_
          refine lv_bipush (pc := 65) (v := 8) C0.1 C0.2.1 dX10_feed_65 (by decide) ?_
          refine lv_iload (pc := 67) C0.1 C0.2.1 dX10_feed_67 (lv_at hl 0 rfl) ?_
          refine lv_imul (pc := 69) C0.1 C0.2.1 dX10_feed_69 ?_
          refine lv_topi (fun q36 eq36 => ?_)
          obtain rfl : q36 = 16 := eq36.trans (by decide)
          obtain ⟨x37, ex37⟩ : ∃ y : Int64, y = (w.toUInt64 >>> ((16 : Int32).toInt64.toUInt64 &&& Int64.toUInt64 63)).toInt64 := ⟨_, rfl⟩
          refine lv_lushr (pc := 70) (v := x37) C0.1 C0.2.1 dX10_feed_70 (by rw [ex37]) ?_
          refine lv_l2i (pc := 71) (v := x37.toInt32) C0.1 C0.2.1 dX10_feed_71 rfl ?_
          refine lv_i2b (pc := 72) (v := x37.toInt32.toInt8.toInt32) C0.1 C0.2.1 dX10_feed_72 rfl ?_
          refine xbast (pc := 73) (N := 600) C0 (Nat.le_of_ble_eq_true rfl) hH hS 85 ⟨Nat.le_of_ble_eq_true rfl, Nat.le_of_ble_eq_true rfl⟩ ⟨rfl, rfl⟩ (vin (by decide)) dX10_feed_73 (fun _ locs hH hS => ?_)
          have hH : Hd D tA b 78 52 zz i (va_up (va_up (va_up F 85 (upd (F 85) (Int32.toNatClampNeg 0) (Int8.toInt32 (Int32.toInt8 x31.toInt32.toInt8.toInt32)))) 85 (upd (upd (F 85) (Int32.toNatClampNeg 0) (Int8.toInt32 (Int32.toInt8 x31.toInt32.toInt8.toInt32))) (Int32.toNatClampNeg 1) (Int8.toInt32 (Int32.toInt8 x34.toInt32.toInt8.toInt32)))) 85 (upd (upd (upd (F 85) (Int32.toNatClampNeg 0) (Int8.toInt32 (Int32.toInt8 x31.toInt32.toInt8.toInt32))) (Int32.toNatClampNeg 1) (Int8.toInt32 (Int32.toInt8 x34.toInt32.toInt8.toInt32))) (Int32.toNatClampNeg 2) (Int8.toInt32 (Int32.toInt8 x37.toInt32.toInt8.toInt32)))) G _ := hH
          refine lv_iinc (pc := 74) (v := 3) (lv' := [(4, .int 3), (3, .int 3), (0, .ref (b + 78)), (1, .long w)]) C0.1 C0.2.1 dX10_feed_74 hl (k := 0) rfl (by decide) (by decide) rfl (fun ls hl => ?_)
          refine lv_goto (pc := 77) (tgt := 47) C0.1 C0.2.1 dX10_feed_77 (by decide) ?_
          refine lv_iload (pc := 47) C0.1 C0.2.1 dX10_feed_47 (lv_at hl 0 rfl) ?_
          refine lv_iload_n (pc := 49) C0.1 C0.2.1 dX10_feed_49 rfl (lv_at hl 1 rfl) ?_
          refine lv_icmp_ge (pc := 50) (tgt := 80) C0.1 C0.2.1 dX10_feed_50 (by decide) (fun _ => ?_) (fun c => absurd (by decide) c)
          refine lv_aload_n (pc := 80) C0.1 C0.2.1 dX10_feed_80 rfl (lv_at hl 2 rfl) ?_
          refine lv_dup (pc := 81) C0.1 C0.2.1 dX10_feed_81 rfl ?_
          refine xget (pc := 82) C0 hH 78 12 clX10 ⟨Nat.le_of_ble_eq_true rfl, Nat.le_of_ble_eq_true rfl⟩ ⟨rfl, rfl⟩ (Nat.le_of_ble_eq_true rfl) fl_X10_219 (v := .int 0) (congrArg Value.int hi_78_12) dX10_feed_82 ?_
          refine lv_iload_n (pc := 85) C0.1 C0.2.1 dX10_feed_85 rfl (lv_at hl 1 rfl) ?_
          refine lv_iadd (pc := 86) C0.1 C0.2.1 dX10_feed_86 ?_
          refine lv_topi (fun q38 eq38 => ?_)
          obtain rfl : q38 = 3 := eq38.trans (by decide)
          refine xputI (pc := 87) C0 (Nat.le_of_ble_eq_true rfl) hH hS 78 12 clX10 ⟨Nat.le_of_ble_eq_true rfl, Nat.le_of_ble_eq_true rfl⟩ ⟨rfl, rfl⟩ ⟨Nat.le_of_ble_eq_true rfl, rfl, rfl⟩ fl_X10_219 (x := 3) ⟨rfl, rfl⟩ dX10_feed_87 (fun _ locs hH hS _ => ?_)
          have hH : Hd D tA b 78 52 zz (up2 i 78 12 3) (va_up (va_up (va_up F 85 (upd (F 85) (Int32.toNatClampNeg 0) (Int8.toInt32 (Int32.toInt8 x31.toInt32.toInt8.toInt32)))) 85 (upd (upd (F 85) (Int32.toNatClampNeg 0) (Int8.toInt32 (Int32.toInt8 x31.toInt32.toInt8.toInt32))) (Int32.toNatClampNeg 1) (Int8.toInt32 (Int32.toInt8 x34.toInt32.toInt8.toInt32)))) 85 (upd (upd (upd (F 85) (Int32.toNatClampNeg 0) (Int8.toInt32 (Int32.toInt8 x31.toInt32.toInt8.toInt32))) (Int32.toNatClampNeg 1) (Int8.toInt32 (Int32.toInt8 x34.toInt32.toInt8.toInt32))) (Int32.toNatClampNeg 2) (Int8.toInt32 (Int32.toInt8 x37.toInt32.toInt8.toInt32)))) G _ := hH
          refine lv_aload_n (pc := 90) C0.1 C0.2.1 dX10_feed_90 rfl (lv_at hl 2 rfl) ?_
          refine lv_iconst (pc := 91) (v := 0) C0.1 C0.2.1 dX10_feed_91 (by decide) ?_
          refine xputI (pc := 92) C0 (Nat.le_of_ble_eq_true rfl) hH hS 78 15 clX10 ⟨Nat.le_of_ble_eq_true rfl, Nat.le_of_ble_eq_true rfl⟩ ⟨rfl, rfl⟩ ⟨Nat.le_of_ble_eq_true rfl, rfl, rfl⟩ fl_X10_211 (x := 0) ⟨rfl, rfl⟩ dX10_feed_92 (fun _ locs hH hS _ => ?_)
          have hH : Hd D tA b 78 52 zz (up2 (up2 i 78 12 3) 78 15 0) (va_up (va_up (va_up F 85 (upd (F 85) (Int32.toNatClampNeg 0) (Int8.toInt32 (Int32.toInt8 x31.toInt32.toInt8.toInt32)))) 85 (upd (upd (F 85) (Int32.toNatClampNeg 0) (Int8.toInt32 (Int32.toInt8 x31.toInt32.toInt8.toInt32))) (Int32.toNatClampNeg 1) (Int8.toInt32 (Int32.toInt8 x34.toInt32.toInt8.toInt32)))) 85 (upd (upd (upd (F 85) (Int32.toNatClampNeg 0) (Int8.toInt32 (Int32.toInt8 x31.toInt32.toInt8.toInt32))) (Int32.toNatClampNeg 1) (Int8.toInt32 (Int32.toInt8 x34.toInt32.toInt8.toInt32))) (Int32.toNatClampNeg 2) (Int8.toInt32 (Int32.toInt8 x37.toInt32.toInt8.toInt32)))) G _ := hH
          refine lv_aload_n (pc := 95) C0.1 C0.2.1 dX10_feed_95 rfl (lv_at hl 2 rfl) ?_
          refine xget (pc := 96) C0 hH 78 12 clX10 ⟨Nat.le_of_ble_eq_true rfl, Nat.le_of_ble_eq_true rfl⟩ ⟨rfl, rfl⟩ (Nat.le_of_ble_eq_true rfl) fl_X10_219 (v := .int 3) rfl dX10_feed_96 ?_
          exact xiret (pc := 99) C0 hr hH hS dX10_feed_99 (by rw [show zl w = 3 from by unfold zl; simp only [z0, z1, z2, z3, if_true, if_false]]; rfl)
        · have z3 : ¬ bt w 3 = 0 := fun q => z3 ((lg_cmp_eq _ _).mpr (by rw [q]; rfl))
          refine lv_iinc (pc := 23) (v := 4) (lv' := [(3, .int 4), (0, .ref (b + 78)), (1, .long w)]) C0.1 C0.2.1 dX10_feed_23 hl (k := 0) rfl (by decide) (by decide) rfl (fun ls hl => ?_)
          refine lv_goto (pc := 26) (tgt := 2) C0.1 C0.2.1 dX10_feed_26 (by decide) ?_
          refine lv_iload_n (pc := 2) C0.1 C0.2.1 dX10_feed_2 rfl (lv_at hl 0 rfl) ?_
          refine lv_bipush (pc := 3) (v := 8) C0.1 C0.2.1 dX10_feed_3 (by decide) ?_
          refine lv_icmp_ge (pc := 5) (tgt := 29) C0.1 C0.2.1 dX10_feed_5 (by decide) (fun c => absurd c (by decide)) (fun _ => ?_)
          refine lv_lload_n (pc := 8) C0.1 C0.2.1 dX10_feed_8 rfl (lv_at hl 2 rfl) ?_
          refine lv_bipush (pc := 9) (v := 8) C0.1 C0.2.1 dX10_feed_9 (by decide) ?_
          refine lv_iload_n (pc := 11) C0.1 C0.2.1 dX10_feed_11 rfl (lv_at hl 0 rfl) ?_
          refine lv_imul (pc := 12) C0.1 C0.2.1 dX10_feed_12 ?_
          refine lv_topi (fun q39 eq39 => ?_)
          obtain rfl : q39 = 32 := eq39.trans (by decide)
          obtain ⟨x40, ex40⟩ : ∃ y : Int64, y = (w.toUInt64 >>> ((32 : Int32).toInt64.toUInt64 &&& Int64.toUInt64 63)).toInt64 := ⟨_, rfl⟩
          refine lv_lushr (pc := 13) (v := x40) C0.1 C0.2.1 dX10_feed_13 (by rw [ex40]) ?_
          refine lv_ldc2 (pc := 14) C0.1 C0.2.1 C0.2.2.2.1 (C0.2.2.2.2.1 _ kl_X10_169) dX10_feed_14 ?_
          refine lv_land (pc := 17) C0.1 C0.2.1 dX10_feed_17 ?_
          refine lv_topl (fun q41 eq41 => ?_)
          obtain rfl : q41 = lN (bt w 4) := by rw [eq41]; rw [ex40, show (32 : Int32) = 8 * nI 4 from by decide]; exact bt_m w (by decide)
          refine lv_lconst (pc := 18) (v := 0) C0.1 C0.2.1 dX10_feed_18 (by decide) ?_
          refine W.lcmp (pc := 19) C0.1 C0.2.1 dX10_feed_19 ?_
          refine lv_if_eq (pc := 20) (tgt := 29) C0.1 C0.2.1 dX10_feed_20 (by decide) (fun z4 => ?_) (fun z4 => ?_)
          · have z4 := lN0 (bt_lb _ _) ((lg_cmp_eq _ _).mp z4)
            refine lv_aload_n (pc := 29) C0.1 C0.2.1 dX10_feed_29 rfl (lv_at hl 1 rfl) ?_
            refine xget (pc := 30) C0 hH 78 12 clX10 ⟨Nat.le_of_ble_eq_true rfl, Nat.le_of_ble_eq_true rfl⟩ ⟨rfl, rfl⟩ (Nat.le_of_ble_eq_true rfl) fl_X10_219 (v := .int 0) (congrArg Value.int hi_78_12) dX10_feed_30 ?_
            refine lv_iload_n (pc := 33) C0.1 C0.2.1 dX10_feed_33 rfl (lv_at hl 0 rfl) ?_
            refine lv_iadd (pc := 34) C0.1 C0.2.1 dX10_feed_34 ?_
            refine lv_topi (fun q42 eq42 => ?_)
            obtain rfl : q42 = 4 := eq42.trans (by decide)
            refine lv_sipush (pc := 35) (v := 600) C0.1 C0.2.1 dX10_feed_35 (by decide) ?_
            refine lv_icmp_le (pc := 38) (tgt := 44) C0.1 C0.2.1 dX10_feed_38 (by decide) (fun _ => ?_) (fun c => absurd (by decide) c)
            refine lv_iconst (pc := 44) (v := 0) C0.1 C0.2.1 dX10_feed_44 (by decide) ?_
            refine lv_istore (pc := 45) (lv' := [(4, .int 0), (3, .int 4), (0, .ref (b + 78)), (1, .long w)]) C0.1 C0.2.1 dX10_feed_45 hl (by decide) rfl (fun ls hl => ?_)
            refine lv_iload (pc := 47) C0.1 C0.2.1 dX10_feed_47 (lv_at hl 0 rfl) ?_
            refine lv_iload_n (pc := 49) C0.1 C0.2.1 dX10_feed_49 rfl (lv_at hl 1 rfl) ?_
            refine lv_icmp_ge (pc := 50) (tgt := 80) C0.1 C0.2.1 dX10_feed_50 (by decide) (fun c => absurd c (by decide)) (fun _ => ?_)
            refine lv_aload_n (pc := 53) C0.1 C0.2.1 dX10_feed_53 rfl (lv_at hl 2 rfl) ?_
            refine xget (pc := 54) C0 hH 78 11 clX10 ⟨Nat.le_of_ble_eq_true rfl, Nat.le_of_ble_eq_true rfl⟩ ⟨rfl, rfl⟩ (Nat.le_of_ble_eq_true rfl) fl_X10_29 (v := .ref (b + 85)) rfl dX10_feed_54 ?_
            refine lv_aload_n (pc := 57) C0.1 C0.2.1 dX10_feed_57 rfl (lv_at hl 2 rfl) ?_
            refine xget (pc := 58) C0 hH 78 12 clX10 ⟨Nat.le_of_ble_eq_true rfl, Nat.le_of_ble_eq_true rfl⟩ ⟨rfl, rfl⟩ (Nat.le_of_ble_eq_true rfl) fl_X10_219 (v := .int 0) (congrArg Value.int hi_78_12) dX10_feed_58 ?_
            refine lv_iload (pc := 61) C0.1 C0.2.1 dX10_feed_61 (lv_at hl 0 rfl) ?_
            refine lv_iadd (pc := 63) C0.1 C0.2.1 dX10_feed_63 ?_
            refine lv_topi (fun q43 eq43 => ?_)
            obtain rfl : q43 = 0 := eq43.trans (by decide)
            refine lv_lload_n (pc := 64) C0.1 C0.2.1 dX10_feed_64 rfl (lv_at hl 3 rfl) ?_
            refine lv_bipush (pc := 65) (v := 8) C0.1 C0.2.1 dX10_feed_65 (by decide) ?_
            refine lv_iload (pc := 67) C0.1 C0.2.1 dX10_feed_67 (lv_at hl 0 rfl) ?_
            refine lv_imul (pc := 69) C0.1 C0.2.1 dX10_feed_69 ?_
            refine lv_topi (fun q44 eq44 => ?_)
            obtain rfl : q44 = 0 := eq44.trans (by decide)
            obtain ⟨x45, ex45⟩ : ∃ y : Int64, y = (w.toUInt64 >>> ((0 : Int32).toInt64.toUInt64 &&& Int64.toUInt64 63)).toInt64 := ⟨_, rfl⟩
            refine lv_lushr (pc := 70) (v := x45) C0.1 C0.2.1 dX10_feed_70 (by rw [ex45]) ?_
            refine lv_l2i (pc := 71) (v := x45.toInt32) C0.1 C0.2.1 dX10_feed_71 rfl ?_
            refine lv_i2b (pc := 72) (v := x45.toInt32.toInt8.toInt32) C0.1 C0.2.1 dX10_feed_72 rfl ?_
            refine xbast (pc := 73) (N := 600) C0 (Nat.le_of_ble_eq_true rfl) hH hS 85 ⟨Nat.le_of_ble_eq_true rfl, Nat.le_of_ble_eq_true rfl⟩ ⟨rfl, rfl⟩ (vin (by decide)) dX10_feed_73 (fun _ locs hH hS => ?_)
            have hH : Hd D tA b 78 52 zz i (va_up F 85 (upd (F 85) (Int32.toNatClampNeg 0) (Int8.toInt32 (Int32.toInt8 x45.toInt32.toInt8.toInt32)))) G _ := hH
            refine lv_iinc (pc := 74) (v := 1) (lv' := [(4, .int 1), (3, .int 4), (0, .ref (b + 78)), (1, .long w)]) C0.1 C0.2.1 dX10_feed_74 hl (k := 0) rfl (by decide) (by decide) rfl (fun ls hl => ?_)
            refine lv_goto (pc := 77) (tgt := 47) C0.1 C0.2.1 dX10_feed_77 (by decide) ?_
            refine lv_iload (pc := 47) C0.1 C0.2.1 dX10_feed_47 (lv_at hl 0 rfl) ?_
            refine lv_iload_n (pc := 49) C0.1 C0.2.1 dX10_feed_49 rfl (lv_at hl 1 rfl) ?_
            refine lv_icmp_ge (pc := 50) (tgt := 80) C0.1 C0.2.1 dX10_feed_50 (by decide) (fun c => absurd c (by decide)) (fun _ => ?_)
            refine lv_aload_n (pc := 53) C0.1 C0.2.1 dX10_feed_53 rfl (lv_at hl 2 rfl) ?_
            refine xget (pc := 54) C0 hH 78 11 clX10 ⟨Nat.le_of_ble_eq_true rfl, Nat.le_of_ble_eq_true rfl⟩ ⟨rfl, rfl⟩ (Nat.le_of_ble_eq_true rfl) fl_X10_29 (v := .ref (b + 85)) rfl dX10_feed_54 ?_
            refine lv_aload_n (pc := 57) C0.1 C0.2.1 dX10_feed_57 rfl (lv_at hl 2 rfl) ?_
            refine xget (pc := 58) C0 hH 78 12 clX10 ⟨Nat.le_of_ble_eq_true rfl, Nat.le_of_ble_eq_true rfl⟩ ⟨rfl, rfl⟩ (Nat.le_of_ble_eq_true rfl) fl_X10_219 (v := .int 0) (congrArg Value.int hi_78_12) dX10_feed_58 ?_
            refine lv_iload (pc := 61) C0.1 C0.2.1 dX10_feed_61 (lv_at hl 0 rfl) ?_
            refine lv_iadd (pc := 63) C0.1 C0.2.1 dX10_feed_63 ?_
            refine lv_topi (fun q46 eq46 => ?_)
            obtain rfl : q46 = 1 := eq46.trans (by decide)
            refine lv_lload_n (pc := 64) C0.1 C0.2.1 dX10_feed_64 rfl (lv_at hl 3 rfl) ?_
            refine lv_bipush (pc := 65) (v := 8) C0.1 C0.2.1 dX10_feed_65 (by decide) ?_
            refine lv_iload (pc := 67) C0.1 C0.2.1 dX10_feed_67 (lv_at hl 0 rfl) ?_
            refine lv_imul (pc := 69) C0.1 C0.2.1 dX10_feed_69 ?_
            refine lv_topi (fun q47 eq47 => ?_)
            obtain rfl : q47 = 8 := eq47.trans (by decide)
            obtain ⟨x48, ex48⟩ : ∃ y : Int64, y = (w.toUInt64 >>> ((8 : Int32).toInt64.toUInt64 &&& Int64.toUInt64 63)).toInt64 := ⟨_, rfl⟩
            refine lv_lushr (pc := 70) (v := x48) C0.1 C0.2.1 dX10_feed_70 (by rw [ex48]) ?_
            refine lv_l2i (pc := 71) (v := x48.toInt32) C0.1 C0.2.1 dX10_feed_71 rfl ?_
            refine lv_i2b (pc := 72) (v := x48.toInt32.toInt8.toInt32) C0.1 C0.2.1 dX10_feed_72 rfl ?_
            refine xbast (pc := 73) (N := 600) C0 (Nat.le_of_ble_eq_true rfl) hH hS 85 ⟨Nat.le_of_ble_eq_true rfl, Nat.le_of_ble_eq_true rfl⟩ ⟨rfl, rfl⟩ (vin (by decide)) dX10_feed_73 (fun _ locs hH hS => ?_)
            have hH : Hd D tA b 78 52 zz i (va_up (va_up F 85 (upd (F 85) (Int32.toNatClampNeg 0) (Int8.toInt32 (Int32.toInt8 x45.toInt32.toInt8.toInt32)))) 85 (upd (upd (F 85) (Int32.toNatClampNeg 0) (Int8.toInt32 (Int32.toInt8 x45.toInt32.toInt8.toInt32))) (Int32.toNatClampNeg 1) (Int8.toInt32 (Int32.toInt8 x48.toInt32.toInt8.toInt32)))) G _ := hH
            refine lv_iinc (pc := 74) (v := 2) (lv' := [(4, .int 2), (3, .int 4), (0, .ref (b + 78)), (1, .long w)]) C0.1 C0.2.1 dX10_feed_74 hl (k := 0) rfl (by decide) (by decide) rfl (fun ls hl => ?_)
            refine lv_goto (pc := 77) (tgt := 47) C0.1 C0.2.1 dX10_feed_77 (by decide) ?_
            refine lv_iload (pc := 47) C0.1 C0.2.1 dX10_feed_47 (lv_at hl 0 rfl) ?_
            refine lv_iload_n (pc := 49) C0.1 C0.2.1 dX10_feed_49 rfl (lv_at hl 1 rfl) ?_
            refine lv_icmp_ge (pc := 50) (tgt := 80) C0.1 C0.2.1 dX10_feed_50 (by decide) (fun c => absurd c (by decide)) (fun _ => ?_)
            refine lv_aload_n (pc := 53) C0.1 C0.2.1 dX10_feed_53 rfl (lv_at hl 2 rfl) ?_
            refine xget (pc := 54) C0 hH 78 11 clX10 ⟨Nat.le_of_ble_eq_true rfl, Nat.le_of_ble_eq_true rfl⟩ ⟨rfl, rfl⟩ (Nat.le_of_ble_eq_true rfl) fl_X10_29 (v := .ref (b + 85)) rfl dX10_feed_54 ?_
            refine lv_aload_n (pc := 57) C0.1 C0.2.1 dX10_feed_57 rfl (lv_at hl 2 rfl) ?_
            refine xget (pc := 58) C0 hH 78 12 clX10 ⟨Nat.le_of_ble_eq_true rfl, Nat.le_of_ble_eq_true rfl⟩ ⟨rfl, rfl⟩ (Nat.le_of_ble_eq_true rfl) fl_X10_219 (v := .int 0) (congrArg Value.int hi_78_12) dX10_feed_58 ?_
            refine lv_iload (pc := 61) C0.1 C0.2.1 dX10_feed_61 (lv_at hl 0 rfl) ?_
            refine lv_iadd (pc := 63) C0.1 C0.2.1 dX10_feed_63 ?_
            refine lv_topi (fun q49 eq49 => ?_)
            obtain rfl : q49 = 2 := eq49.trans (by decide)
            refine lv_lload_n (pc := 64) C0.1 C0.2.1 dX10_feed_64 rfl (lv_at hl 3 rfl) ?_
            refine lv_bipush (pc := 65) (v := 8) C0.1 C0.2.1 dX10_feed_65 (by decide) ?_
            refine lv_iload (pc := 67) C0.1 C0.2.1 dX10_feed_67 (lv_at hl 0 rfl) ?_
            refine lv_imul (pc := 69) C0.1 C0.2.1 dX10_feed_69 ?_
            refine lv_topi (fun q50 eq50 => ?_)
            obtain rfl : q50 = 16 := eq50.trans (by decide)
            obtain ⟨x51, ex51⟩ : ∃ y : Int64, y = (w.toUInt64 >>> ((16 : Int32).toInt64.toUInt64 &&& Int64.toUInt64 63)).toInt64 := ⟨_, rfl⟩
            refine lv_lushr (pc := 70) (v := x51) C0.1 C0.2.1 dX10_feed_70 (by rw [ex51]) ?_
            refine lv_l2i (pc := 71) (v := x51.toInt32) C0.1 C0.2.1 dX10_feed_71 rfl ?_
            refine lv_i2b (pc := 72) (v := x51.toInt32.toInt8.toInt32) C0.1 C0.2.1 dX10_feed_72 rfl ?_
            refine xbast (pc := 73) (N := 600) C0 (Nat.le_of_ble_eq_true rfl) hH hS 85 ⟨Nat.le_of_ble_eq_true rfl, Nat.le_of_ble_eq_true rfl⟩ ⟨rfl, rfl⟩ (vin (by decide)) dX10_feed_73 (fun _ locs hH hS => ?_)
            have hH : Hd D tA b 78 52 zz i (va_up (va_up (va_up F 85 (upd (F 85) (Int32.toNatClampNeg 0) (Int8.toInt32 (Int32.toInt8 x45.toInt32.toInt8.toInt32)))) 85 (upd (upd (F 85) (Int32.toNatClampNeg 0) (Int8.toInt32 (Int32.toInt8 x45.toInt32.toInt8.toInt32))) (Int32.toNatClampNeg 1) (Int8.toInt32 (Int32.toInt8 x48.toInt32.toInt8.toInt32)))) 85 (upd (upd (upd (F 85) (Int32.toNatClampNeg 0) (Int8.toInt32 (Int32.toInt8 x45.toInt32.toInt8.toInt32))) (Int32.toNatClampNeg 1) (Int8.toInt32 (Int32.toInt8 x48.toInt32.toInt8.toInt32))) (Int32.toNatClampNeg 2) (Int8.toInt32 (Int32.toInt8 x51.toInt32.toInt8.toInt32)))) G _ := hH
            refine lv_iinc (pc := 74) (v := 3) (lv' := [(4, .int 3), (3, .int 4), (0, .ref (b + 78)), (1, .long w)]) C0.1 C0.2.1 dX10_feed_74 hl (k := 0) rfl (by decide) (by decide) rfl (fun ls hl => ?_)
            refine lv_goto (pc := 77) (tgt := 47) C0.1 C0.2.1 dX10_feed_77 (by decide) ?_
            refine lv_iload (pc := 47) C0.1 C0.2.1 dX10_feed_47 (lv_at hl 0 rfl) ?_
            refine lv_iload_n (pc := 49) C0.1 C0.2.1 dX10_feed_49 rfl (lv_at hl 1 rfl) ?_
            refine lv_icmp_ge (pc := 50) (tgt := 80) C0.1 C0.2.1 dX10_feed_50 (by decide) (fun c => absurd c (by decide)) (fun _ => ?_)
            refine lv_aload_n (pc := 53) C0.1 C0.2.1 dX10_feed_53 rfl (lv_at hl 2 rfl) ?_
            refine xget (pc := 54) C0 hH 78 11 clX10 ⟨Nat.le_of_ble_eq_true rfl, Nat.le_of_ble_eq_true rfl⟩ ⟨rfl, rfl⟩ (Nat.le_of_ble_eq_true rfl) fl_X10_29 (v := .ref (b + 85)) rfl dX10_feed_54 ?_
            refine lv_aload_n (pc := 57) C0.1 C0.2.1 dX10_feed_57 rfl (lv_at hl 2 rfl) ?_
            refine xget (pc := 58) C0 hH 78 12 clX10 ⟨Nat.le_of_ble_eq_true rfl, Nat.le_of_ble_eq_true rfl⟩ ⟨rfl, rfl⟩ (Nat.le_of_ble_eq_true rfl) fl_X10_219 (v := .int 0) (congrArg Value.int hi_78_12) dX10_feed_58 ?_
            refine lv_iload (pc := 61) C0.1 C0.2.1 dX10_feed_61 (lv_at hl 0 rfl) ?_
            refine lv_iadd (pc := 63) C0.1 C0.2.1 dX10_feed_63 ?_
            refine lv_topi (fun q52 eq52 => ?_)
            obtain rfl : q52 = 3 := eq52.trans (by decide)
            refine lv_lload_n (pc := 64) C0.1 C0.2.1 dX10_feed_64 rfl (lv_at hl 3 rfl) ?_
            refine lv_bipush (pc := 65) (v := 8) C0.1 C0.2.1 dX10_feed_65 (by decide) ?_
            refine lv_iload (pc := 67) C0.1 C0.2.1 dX10_feed_67 (lv_at hl 0 rfl) ?_
            refine lv_imul (pc := 69) C0.1 C0.2.1 dX10_feed_69 ?_
            refine lv_topi (fun q53 eq53 => ?_)
            obtain rfl : q53 = 24 := eq53.trans (by decide)
            obtain ⟨x54, ex54⟩ : ∃ y : Int64, y = (w.toUInt64 >>> ((24 : Int32).toInt64.toUInt64 &&& Int64.toUInt64 63)).toInt64 := ⟨_, rfl⟩
            refine lv_lushr (pc := 70) (v := x54) C0.1 C0.2.1 dX10_feed_70 (by rw [ex54]) ?_
            refine lv_l2i (pc := 71) (v := x54.toInt32) C0.1 C0.2.1 dX10_feed_71 rfl ?_
            refine lv_i2b (pc := 72) (v := x54.toInt32.toInt8.toInt32) C0.1 C0.2.1 dX10_feed_72 rfl ?_
            refine xbast (pc := 73) (N := 600) C0 (Nat.le_of_ble_eq_true rfl) hH hS 85 ⟨Nat.le_of_ble_eq_true rfl, Nat.le_of_ble_eq_true rfl⟩ ⟨rfl, rfl⟩ (vin (by decide)) dX10_feed_73 (fun _ locs hH hS => ?_)
            have hH : Hd D tA b 78 52 zz i (va_up (va_up (va_up (va_up F 85 (upd (F 85) (Int32.toNatClampNeg 0) (Int8.toInt32 (Int32.toInt8 x45.toInt32.toInt8.toInt32)))) 85 (upd (upd (F 85) (Int32.toNatClampNeg 0) (Int8.toInt32 (Int32.toInt8 x45.toInt32.toInt8.toInt32))) (Int32.toNatClampNeg 1) (Int8.toInt32 (Int32.toInt8 x48.toInt32.toInt8.toInt32)))) 85 (upd (upd (upd (F 85) (Int32.toNatClampNeg 0) (Int8.toInt32 (Int32.toInt8 x45.toInt32.toInt8.toInt32))) (Int32.toNatClampNeg 1) (Int8.toInt32 (Int32.toInt8 x48.toInt32.toInt8.toInt32))) (Int32.toNatClampNeg 2) (Int8.toInt32 (Int32.toInt8 x51.toInt32.toInt8.toInt32)))) 85 (upd (upd (upd (upd (F 85) (Int32.toNatClampNeg 0) (Int8.toInt32 (Int32.toInt8 x45.toInt32.toInt8.toInt32))) (Int32.toNatClampNeg 1) (Int8.toInt32 (Int32.toInt8 x48.toInt32.toInt8.toInt32))) (Int32.toNatClampNeg 2) (Int8.toInt32 (Int32.toInt8 x51.toInt32.toInt8.toInt32))) (Int32.toNatClampNeg 3) (Int8.toInt32 (Int32.toInt8 x54.toInt32.toInt8.toInt32)))) G _ := hH
            refine lv_iinc (pc := 74) (v := 4) (lv' := [(4, .int 4), (3, .int 4), (0, .ref (b + 78)), (1, .long w)]) C0.1 C0.2.1 dX10_feed_74 hl (k := 0) rfl (by decide) (by decide) rfl (fun ls hl => ?_)
            refine lv_goto (pc := 77) (tgt := 47) C0.1 C0.2.1 dX10_feed_77 (by decide) ?_
            refine lv_iload (pc := 47) C0.1 C0.2.1 dX10_feed_47 (lv_at hl 0 rfl) ?_
            refine lv_iload_n (pc := 49) C0.1 C0.2.1 dX10_feed_49 rfl (lv_at hl 1 rfl) ?_
            refine lv_icmp_ge (pc := 50) (tgt := 80) C0.1 C0.2.1 dX10_feed_50 (by decide) (fun _ => ?_) (fun c => absurd (by decide) c)
            refine lv_aload_n (pc := 80) C0.1 C0.2.1 dX10_feed_80 rfl (lv_at hl 2 rfl) ?_
            refine lv_dup (pc := 81) C0.1 C0.2.1 dX10_feed_81 rfl ?_
            refine xget (pc := 82) C0 hH 78 12 clX10 ⟨Nat.le_of_ble_eq_true rfl, Nat.le_of_ble_eq_true rfl⟩ ⟨rfl, rfl⟩ (Nat.le_of_ble_eq_true rfl) fl_X10_219 (v := .int 0) (congrArg Value.int hi_78_12) dX10_feed_82 ?_
            refine lv_iload_n (pc := 85) C0.1 C0.2.1 dX10_feed_85 rfl (lv_at hl 1 rfl) ?_
            refine lv_iadd (pc := 86) C0.1 C0.2.1 dX10_feed_86 ?_
            refine lv_topi (fun q55 eq55 => ?_)
            obtain rfl : q55 = 4 := eq55.trans (by decide)
            refine xputI (pc := 87) C0 (Nat.le_of_ble_eq_true rfl) hH hS 78 12 clX10 ⟨Nat.le_of_ble_eq_true rfl, Nat.le_of_ble_eq_true rfl⟩ ⟨rfl, rfl⟩ ⟨Nat.le_of_ble_eq_true rfl, rfl, rfl⟩ fl_X10_219 (x := 4) ⟨rfl, rfl⟩ dX10_feed_87 (fun _ locs hH hS _ => ?_)
            have hH : Hd D tA b 78 52 zz (up2 i 78 12 4) (va_up (va_up (va_up (va_up F 85 (upd (F 85) (Int32.toNatClampNeg 0) (Int8.toInt32 (Int32.toInt8 x45.toInt32.toInt8.toInt32)))) 85 (upd (upd (F 85) (Int32.toNatClampNeg 0) (Int8.toInt32 (Int32.toInt8 x45.toInt32.toInt8.toInt32))) (Int32.toNatClampNeg 1) (Int8.toInt32 (Int32.toInt8 x48.toInt32.toInt8.toInt32)))) 85 (upd (upd (upd (F 85) (Int32.toNatClampNeg 0) (Int8.toInt32 (Int32.toInt8 x45.toInt32.toInt8.toInt32))) (Int32.toNatClampNeg 1) (Int8.toInt32 (Int32.toInt8 x48.toInt32.toInt8.toInt32))) (Int32.toNatClampNeg 2) (Int8.toInt32 (Int32.toInt8 x51.toInt32.toInt8.toInt32)))) 85 (upd (upd (upd (upd (F 85) (Int32.toNatClampNeg 0) (Int8.toInt32 (Int32.toInt8 x45.toInt32.toInt8.toInt32))) (Int32.toNatClampNeg 1) (Int8.toInt32 (Int32.toInt8 x48.toInt32.toInt8.toInt32))) (Int32.toNatClampNeg 2) (Int8.toInt32 (Int32.toInt8 x51.toInt32.toInt8.toInt32))) (Int32.toNatClampNeg 3) (Int8.toInt32 (Int32.toInt8 x54.toInt32.toInt8.toInt32)))) G _ := hH
            refine lv_aload_n (pc := 90) C0.1 C0.2.1 dX10_feed_90 rfl (lv_at hl 2 rfl) ?_
            refine lv_iconst (pc := 91) (v := 0) C0.1 C0.2.1 dX10_feed_91 (by decide) ?_
            refine xputI (pc := 92) C0 (Nat.le_of_ble_eq_true rfl) hH hS 78 15 clX10 ⟨Nat.le_of_ble_eq_true rfl, Nat.le_of_ble_eq_true rfl⟩ ⟨rfl, rfl⟩ ⟨Nat.le_of_ble_eq_true rfl, rfl, rfl⟩ fl_X10_211 (x := 0) ⟨rfl, rfl⟩ dX10_feed_92 (fun _ locs hH hS _ => ?_)
            have hH : Hd D tA b 78 52 zz (up2 (up2 i 78 12 4) 78 15 0) (va_up (va_up (va_up (va_up F 85 (upd (F 85) (Int32.toNatClampNeg 0) (Int8.toInt32 (Int32.toInt8 x45.toInt32.toInt8.toInt32)))) 85 (upd (upd (F 85) (Int32.toNatClampNeg 0) (Int8.toInt32 (Int32.toInt8 x45.toInt32.toInt8.toInt32))) (Int32.toNatClampNeg 1) (Int8.toInt32 (Int32.toInt8 x48.toInt32.toInt8.toInt32)))) 85 (upd (upd (upd (F 85) (Int32.toNatClampNeg 0) (Int8.toInt32 (Int32.toInt8 x45.toInt32.toInt8.toInt32))) (Int32.toNatClampNeg 1) (Int8.toInt32 (Int32.toInt8 x48.toInt32.toInt8.toInt32))) (Int32.toNatClampNeg 2) (Int8.toInt32 (Int32.toInt8 x51.toInt32.toInt8.toInt32)))) 85 (upd (upd (upd (upd (F 85) (Int32.toNatClampNeg 0) (Int8.toInt32 (Int32.toInt8 x45.toInt32.toInt8.toInt32))) (Int32.toNatClampNeg 1) (Int8.toInt32 (Int32.toInt8 x48.toInt32.toInt8.toInt32))) (Int32.toNatClampNeg 2) (Int8.toInt32 (Int32.toInt8 x51.toInt32.toInt8.toInt32))) (Int32.toNatClampNeg 3) (Int8.toInt32 (Int32.toInt8 x54.toInt32.toInt8.toInt32)))) G _ := hH
            refine lv_aload_n (pc := 95) C0.1 C0.2.1 dX10_feed_95 rfl (lv_at hl 2 rfl) ?_
            refine xget (pc := 96) C0 hH 78 12 clX10 ⟨Nat.le_of_ble_eq_true rfl, Nat.le_of_ble_eq_true rfl⟩ ⟨rfl, rfl⟩ (Nat.le_of_ble_eq_true rfl) fl_X10_219 (v := .int 4) rfl dX10_feed_96 ?_
            exact xiret (pc := 99) C0 hr hH hS dX10_feed_99 (by rw [show zl w = 4 from by unfold zl; simp only [z0, z1, z2, z3, z4, if_true, if_false]]; rfl)
          · have z4 : ¬ bt w 4 = 0 := fun q => z4 ((lg_cmp_eq _ _).mpr (by rw [q]; rfl))
            refine lv_iinc (pc := 23) (v := 5) (lv' := [(3, .int 5), (0, .ref (b + 78)), (1, .long w)]) C0.1 C0.2.1 dX10_feed_23 hl (k := 0) rfl (by decide) (by decide) rfl (fun ls hl => ?_)
            refine lv_goto (pc := 26) (tgt := 2) C0.1 C0.2.1 dX10_feed_26 (by decide) ?_
            refine lv_iload_n (pc := 2) C0.1 C0.2.1 dX10_feed_2 rfl (lv_at hl 0 rfl) ?_
            refine lv_bipush (pc := 3) (v := 8) C0.1 C0.2.1 dX10_feed_3 (by decide) ?_
            refine lv_icmp_ge (pc := 5) (tgt := 29) C0.1 C0.2.1 dX10_feed_5 (by decide) (fun c => absurd c (by decide)) (fun _ => ?_)
            refine lv_lload_n (pc := 8) C0.1 C0.2.1 dX10_feed_8 rfl (lv_at hl 2 rfl) ?_
            refine lv_bipush (pc := 9) (v := 8) C0.1 C0.2.1 dX10_feed_9 (by decide) ?_
            refine lv_iload_n (pc := 11) C0.1 C0.2.1 dX10_feed_11 rfl (lv_at hl 0 rfl) ?_
            refine lv_imul (pc := 12) C0.1 C0.2.1 dX10_feed_12 ?_
            refine lv_topi (fun q56 eq56 => ?_)
            obtain rfl : q56 = 40 := eq56.trans (by decide)
            obtain ⟨x57, ex57⟩ : ∃ y : Int64, y = (w.toUInt64 >>> ((40 : Int32).toInt64.toUInt64 &&& Int64.toUInt64 63)).toInt64 := ⟨_, rfl⟩
            refine lv_lushr (pc := 13) (v := x57) C0.1 C0.2.1 dX10_feed_13 (by rw [ex57]) ?_
            refine lv_ldc2 (pc := 14) C0.1 C0.2.1 C0.2.2.2.1 (C0.2.2.2.2.1 _ kl_X10_169) dX10_feed_14 ?_
            refine lv_land (pc := 17) C0.1 C0.2.1 dX10_feed_17 ?_
            refine lv_topl (fun q58 eq58 => ?_)
            obtain rfl : q58 = lN (bt w 5) := by rw [eq58]; rw [ex57, show (40 : Int32) = 8 * nI 5 from by decide]; exact bt_m w (by decide)
            refine lv_lconst (pc := 18) (v := 0) C0.1 C0.2.1 dX10_feed_18 (by decide) ?_
            refine W.lcmp (pc := 19) C0.1 C0.2.1 dX10_feed_19 ?_
            refine lv_if_eq (pc := 20) (tgt := 29) C0.1 C0.2.1 dX10_feed_20 (by decide) (fun z5 => ?_) (fun z5 => ?_)
            · have z5 := lN0 (bt_lb _ _) ((lg_cmp_eq _ _).mp z5)
              refine lv_aload_n (pc := 29) C0.1 C0.2.1 dX10_feed_29 rfl (lv_at hl 1 rfl) ?_
              refine xget (pc := 30) C0 hH 78 12 clX10 ⟨Nat.le_of_ble_eq_true rfl, Nat.le_of_ble_eq_true rfl⟩ ⟨rfl, rfl⟩ (Nat.le_of_ble_eq_true rfl) fl_X10_219 (v := .int 0) (congrArg Value.int hi_78_12) dX10_feed_30 ?_
              refine lv_iload_n (pc := 33) C0.1 C0.2.1 dX10_feed_33 rfl (lv_at hl 0 rfl) ?_
              refine lv_iadd (pc := 34) C0.1 C0.2.1 dX10_feed_34 ?_
              refine lv_topi (fun q59 eq59 => ?_)
              obtain rfl : q59 = 5 := eq59.trans (by decide)
              refine lv_sipush (pc := 35) (v := 600) C0.1 C0.2.1 dX10_feed_35 (by decide) ?_
              refine lv_icmp_le (pc := 38) (tgt := 44) C0.1 C0.2.1 dX10_feed_38 (by decide) (fun _ => ?_) (fun c => absurd (by decide) c)
              refine lv_iconst (pc := 44) (v := 0) C0.1 C0.2.1 dX10_feed_44 (by decide) ?_
              refine lv_istore (pc := 45) (lv' := [(4, .int 0), (3, .int 5), (0, .ref (b + 78)), (1, .long w)]) C0.1 C0.2.1 dX10_feed_45 hl (by decide) rfl (fun ls hl => ?_)
              refine lv_iload (pc := 47) C0.1 C0.2.1 dX10_feed_47 (lv_at hl 0 rfl) ?_
              refine lv_iload_n (pc := 49) C0.1 C0.2.1 dX10_feed_49 rfl (lv_at hl 1 rfl) ?_
              refine lv_icmp_ge (pc := 50) (tgt := 80) C0.1 C0.2.1 dX10_feed_50 (by decide) (fun c => absurd c (by decide)) (fun _ => ?_)
              refine lv_aload_n (pc := 53) C0.1 C0.2.1 dX10_feed_53 rfl (lv_at hl 2 rfl) ?_
              refine xget (pc := 54) C0 hH 78 11 clX10 ⟨Nat.le_of_ble_eq_true rfl, Nat.le_of_ble_eq_true rfl⟩ ⟨rfl, rfl⟩ (Nat.le_of_ble_eq_true rfl) fl_X10_29 (v := .ref (b + 85)) rfl dX10_feed_54 ?_
              refine lv_aload_n (pc := 57) C0.1 C0.2.1 dX10_feed_57 rfl (lv_at hl 2 rfl) ?_
              refine xget (pc := 58) C0 hH 78 12 clX10 ⟨Nat.le_of_ble_eq_true rfl, Nat.le_of_ble_eq_true rfl⟩ ⟨rfl, rfl⟩ (Nat.le_of_ble_eq_true rfl) fl_X10_219 (v := .int 0) (congrArg Value.int hi_78_12) dX10_feed_58 ?_
              refine lv_iload (pc := 61) C0.1 C0.2.1 dX10_feed_61 (lv_at hl 0 rfl) ?_
              refine lv_iadd (pc := 63) C0.1 C0.2.1 dX10_feed_63 ?_
              refine lv_topi (fun q60 eq60 => ?_)
              obtain rfl : q60 = 0 := eq60.trans (by decide)
              refine lv_lload_n (pc := 64) C0.1 C0.2.1 dX10_feed_64 rfl (lv_at hl 3 rfl) ?_
              refine lv_bipush (pc := 65) (v := 8) C0.1 C0.2.1 dX10_feed_65 (by decide) ?_
              refine lv_iload (pc := 67) C0.1 C0.2.1 dX10_feed_67 (lv_at hl 0 rfl) ?_
              refine lv_imul (pc := 69) C0.1 C0.2.1 dX10_feed_69 ?_
              refine lv_topi (fun q61 eq61 => ?_)
              obtain rfl : q61 = 0 := eq61.trans (by decide)
              obtain ⟨x62, ex62⟩ : ∃ y : Int64, y = (w.toUInt64 >>> ((0 : Int32).toInt64.toUInt64 &&& Int64.toUInt64 63)).toInt64 := ⟨_, rfl⟩
              refine lv_lushr (pc := 70) (v := x62) C0.1 C0.2.1 dX10_feed_70 (by rw [ex62]) ?_
              refine lv_l2i (pc := 71) (v := x62.toInt32) C0.1 C0.2.1 dX10_feed_71 rfl ?_
              refine lv_i2b (pc := 72) (v := x62.toInt32.toInt8.toInt32) C0.1 C0.2.1 dX10_feed_72 rfl ?_
              refine xbast (pc := 73) (N := 600) C0 (Nat.le_of_ble_eq_true rfl) hH hS 85 ⟨Nat.le_of_ble_eq_true rfl, Nat.le_of_ble_eq_true rfl⟩ ⟨rfl, rfl⟩ (vin (by decide)) dX10_feed_73 (fun _ locs hH hS => ?_)
              have hH : Hd D tA b 78 52 zz i (va_up F 85 (upd (F 85) (Int32.toNatClampNeg 0) (Int8.toInt32 (Int32.toInt8 x62.toInt32.toInt8.toInt32)))) G _ := hH
              refine lv_iinc (pc := 74) (v := 1) (lv' := [(4, .int 1), (3, .int 5), (0, .ref (b + 78)), (1, .long w)]) C0.1 C0.2.1 dX10_feed_74 hl (k := 0) rfl (by decide) (by decide) rfl (fun ls hl => ?_)
              refine lv_goto (pc := 77) (tgt := 47) C0.1 C0.2.1 dX10_feed_77 (by decide) ?_
              refine lv_iload (pc := 47) C0.1 C0.2.1 dX10_feed_47 (lv_at hl 0 rfl) ?_
              refine lv_iload_n (pc := 49) C0.1 C0.2.1 dX10_feed_49 rfl (lv_at hl 1 rfl) ?_
              refine lv_icmp_ge (pc := 50) (tgt := 80) C0.1 C0.2.1 dX10_feed_50 (by decide) (fun c => absurd c (by decide)) (fun _ => ?_)
              refine lv_aload_n (pc := 53) C0.1 C0.2.1 dX10_feed_53 rfl (lv_at hl 2 rfl) ?_
              refine xget (pc := 54) C0 hH 78 11 clX10 ⟨Nat.le_of_ble_eq_true rfl, Nat.le_of_ble_eq_true rfl⟩ ⟨rfl, rfl⟩ (Nat.le_of_ble_eq_true rfl) fl_X10_29 (v := .ref (b + 85)) rfl dX10_feed_54 ?_
              refine lv_aload_n (pc := 57) C0.1 C0.2.1 dX10_feed_57 rfl (lv_at hl 2 rfl) ?_
              refine xget (pc := 58) C0 hH 78 12 clX10 ⟨Nat.le_of_ble_eq_true rfl, Nat.le_of_ble_eq_true rfl⟩ ⟨rfl, rfl⟩ (Nat.le_of_ble_eq_true rfl) fl_X10_219 (v := .int 0) (congrArg Value.int hi_78_12) dX10_feed_58 ?_
              refine lv_iload (pc := 61) C0.1 C0.2.1 dX10_feed_61 (lv_at hl 0 rfl) ?_
              refine lv_iadd (pc := 63) C0.1 C0.2.1 dX10_feed_63 ?_
              refine lv_topi (fun q63 eq63 => ?_)
              obtain rfl : q63 = 1 := eq63.trans (by decide)
              refine lv_lload_n (pc := 64) C0.1 C0.2.1 dX10_feed_64 rfl (lv_at hl 3 rfl) ?_
              refine lv_bipush (pc := 65) (v := 8) C0.1 C0.2.1 dX10_feed_65 (by decide) ?_
              refine lv_iload (pc := 67) C0.1 C0.2.1 dX10_feed_67 (lv_at hl 0 rfl) ?_
              refine lv_imul (pc := 69) C0.1 C0.2.1 dX10_feed_69 ?_
              refine lv_topi (fun q64 eq64 => ?_)
              obtain rfl : q64 = 8 := eq64.trans (by decide)
              obtain ⟨x65, ex65⟩ : ∃ y : Int64, y = (w.toUInt64 >>> ((8 : Int32).toInt64.toUInt64 &&& Int64.toUInt64 63)).toInt64 := ⟨_, rfl⟩
              refine lv_lushr (pc := 70) (v := x65) C0.1 C0.2.1 dX10_feed_70 (by rw [ex65]) ?_
              refine lv_l2i (pc := 71) (v := x65.toInt32) C0.1 C0.2.1 dX10_feed_71 rfl ?_
              refine lv_i2b (pc := 72) (v := x65.toInt32.toInt8.toInt32) C0.1 C0.2.1 dX10_feed_72 rfl ?_
              refine xbast (pc := 73) (N := 600) C0 (Nat.le_of_ble_eq_true rfl) hH hS 85 ⟨Nat.le_of_ble_eq_true rfl, Nat.le_of_ble_eq_true rfl⟩ ⟨rfl, rfl⟩ (vin (by decide)) dX10_feed_73 (fun _ locs hH hS => ?_)
              have hH : Hd D tA b 78 52 zz i (va_up (va_up F 85 (upd (F 85) (Int32.toNatClampNeg 0) (Int8.toInt32 (Int32.toInt8 x62.toInt32.toInt8.toInt32)))) 85 (upd (upd (F 85) (Int32.toNatClampNeg 0) (Int8.toInt32 (Int32.toInt8 x62.toInt32.toInt8.toInt32))) (Int32.toNatClampNeg 1) (Int8.toInt32 (Int32.toInt8 x65.toInt32.toInt8.toInt32)))) G _ := hH
              refine lv_iinc (pc := 74) (v := 2) (lv' := [(4, .int 2), (3, .int 5), (0, .ref (b + 78)), (1, .long w)]) C0.1 C0.2.1 dX10_feed_74 hl (k := 0) rfl (by decide) (by decide) rfl (fun ls hl => ?_)
              refine lv_goto (pc := 77) (tgt := 47) C0.1 C0.2.1 dX10_feed_77 (by decide) ?_
              refine lv_iload (pc := 47) C0.1 C0.2.1 dX10_feed_47 (lv_at hl 0 rfl) ?_
              refine lv_iload_n (pc := 49) C0.1 C0.2.1 dX10_feed_49 rfl (lv_at hl 1 rfl) ?_
              refine lv_icmp_ge (pc := 50) (tgt := 80) C0.1 C0.2.1 dX10_feed_50 (by decide) (fun c => absurd c (by decide)) (fun _ => ?_)
              refine lv_aload_n (pc := 53) C0.1 C0.2.1 dX10_feed_53 rfl (lv_at hl 2 rfl) ?_
              refine xget (pc := 54) C0 hH 78 11 clX10 ⟨Nat.le_of_ble_eq_true rfl, Nat.le_of_ble_eq_true rfl⟩ ⟨rfl, rfl⟩ (Nat.le_of_ble_eq_true rfl) fl_X10_29 (v := .ref (b + 85)) rfl dX10_feed_54 ?_
              refine lv_aload_n (pc := 57) C0.1 C0.2.1 dX10_feed_57 rfl (lv_at hl 2 rfl) ?_
              refine xget (pc := 58) C0 hH 78 12 clX10 ⟨Nat.le_of_ble_eq_true rfl, Nat.le_of_ble_eq_true rfl⟩ ⟨rfl, rfl⟩ (Nat.le_of_ble_eq_true rfl) fl_X10_219 (v := .int 0) (congrArg Value.int hi_78_12) dX10_feed_58 ?_
              refine lv_iload (pc := 61) C0.1 C0.2.1 dX10_feed_61 (lv_at hl 0 rfl) ?_
              refine lv_iadd (pc := 63) C0.1 C0.2.1 dX10_feed_63 ?_
              refine lv_topi (fun q66 eq66 => ?_)
              obtain rfl : q66 = 2 := eq66.trans (by decide)
              refine lv_lload_n (pc := 64) C0.1 C0.2.1 dX10_feed_64 rfl (lv_at hl 3 rfl) ?_
              refine lv_bipush (pc := 65) (v := 8) C0.1 C0.2.1 dX10_feed_65 (by decide) ?_
              refine lv_iload (pc := 67) C0.1 C0.2.1 dX10_feed_67 (lv_at hl 0 rfl) ?_
              refine lv_imul (pc := 69) C0.1 C0.2.1 dX10_feed_69 ?_
              refine lv_topi (fun q67 eq67 => ?_)
              obtain rfl : q67 = 16 := eq67.trans (by decide)
              obtain ⟨x68, ex68⟩ : ∃ y : Int64, y = (w.toUInt64 >>> ((16 : Int32).toInt64.toUInt64 &&& Int64.toUInt64 63)).toInt64 := ⟨_, rfl⟩
              refine lv_lushr (pc := 70) (v := x68) C0.1 C0.2.1 dX10_feed_70 (by rw [ex68]) ?_
              refine lv_l2i (pc := 71) (v := x68.toInt32) C0.1 C0.2.1 dX10_feed_71 rfl ?_
              refine lv_i2b (pc := 72) (v := x68.toInt32.toInt8.toInt32) C0.1 C0.2.1 dX10_feed_72 rfl ?_
              refine xbast (pc := 73) (N := 600) C0 (Nat.le_of_ble_eq_true rfl) hH hS 85 ⟨Nat.le_of_ble_eq_true rfl, Nat.le_of_ble_eq_true rfl⟩ ⟨rfl, rfl⟩ (vin (by decide)) dX10_feed_73 (fun _ locs hH hS => ?_)
              have hH : Hd D tA b 78 52 zz i (va_up (va_up (va_up F 85 (upd (F 85) (Int32.toNatClampNeg 0) (Int8.toInt32 (Int32.toInt8 x62.toInt32.toInt8.toInt32)))) 85 (upd (upd (F 85) (Int32.toNatClampNeg 0) (Int8.toInt32 (Int32.toInt8 x62.toInt32.toInt8.toInt32))) (Int32.toNatClampNeg 1) (Int8.toInt32 (Int32.toInt8 x65.toInt32.toInt8.toInt32)))) 85 (upd (upd (upd (F 85) (Int32.toNatClampNeg 0) (Int8.toInt32 (Int32.toInt8 x62.toInt32.toInt8.toInt32))) (Int32.toNatClampNeg 1) (Int8.toInt32 (Int32.toInt8 x65.toInt32.toInt8.toInt32))) (Int32.toNatClampNeg 2) (Int8.toInt32 (Int32.toInt8 x68.toInt32.toInt8.toInt32)))) G _ := hH
              refine lv_iinc (pc := 74) (v := 3) (lv' := [(4, .int 3), (3, .int 5), (0, .ref (b + 78)), (1, .long w)]) C0.1 C0.2.1 dX10_feed_74 hl (k := 0) rfl (by decide) (by decide) rfl (fun ls hl => ?_)
              refine lv_goto (pc := 77) (tgt := 47) C0.1 C0.2.1 dX10_feed_77 (by decide) ?_
              refine lv_iload (pc := 47) C0.1 C0.2.1 dX10_feed_47 (lv_at hl 0 rfl) ?_
              refine lv_iload_n (pc := 49) C0.1 C0.2.1 dX10_feed_49 rfl (lv_at hl 1 rfl) ?_
              refine lv_icmp_ge (pc := 50) (tgt := 80) C0.1 C0.2.1 dX10_feed_50 (by decide) (fun c => absurd c (by decide)) (fun _ => ?_)
              refine lv_aload_n (pc := 53) C0.1 C0.2.1 dX10_feed_53 rfl (lv_at hl 2 rfl) ?_
              refine xget (pc := 54) C0 hH 78 11 clX10 ⟨Nat.le_of_ble_eq_true rfl, Nat.le_of_ble_eq_true rfl⟩ ⟨rfl, rfl⟩ (Nat.le_of_ble_eq_true rfl) fl_X10_29 (v := .ref (b + 85)) rfl dX10_feed_54 ?_
              refine lv_aload_n (pc := 57) C0.1 C0.2.1 dX10_feed_57 rfl (lv_at hl 2 rfl) ?_
              refine xget (pc := 58) C0 hH 78 12 clX10 ⟨Nat.le_of_ble_eq_true rfl, Nat.le_of_ble_eq_true rfl⟩ ⟨rfl, rfl⟩ (Nat.le_of_ble_eq_true rfl) fl_X10_219 (v := .int 0) (congrArg Value.int hi_78_12) dX10_feed_58 ?_
              refine lv_iload (pc := 61) C0.1 C0.2.1 dX10_feed_61 (lv_at hl 0 rfl) ?_
              refine lv_iadd (pc := 63) C0.1 C0.2.1 dX10_feed_63 ?_
              refine lv_topi (fun q69 eq69 => ?_)
              obtain rfl : q69 = 3 := eq69.trans (by decide)
              refine lv_lload_n (pc := 64) C0.1 C0.2.1 dX10_feed_64 rfl (lv_at hl 3 rfl) ?_
              refine lv_bipush (pc := 65) (v := 8) C0.1 C0.2.1 dX10_feed_65 (by decide) ?_
              refine lv_iload (pc := 67) C0.1 C0.2.1 dX10_feed_67 (lv_at hl 0 rfl) ?_
              refine lv_imul (pc := 69) C0.1 C0.2.1 dX10_feed_69 ?_
              refine lv_topi (fun q70 eq70 => ?_)
              obtain rfl : q70 = 24 := eq70.trans (by decide)
              obtain ⟨x71, ex71⟩ : ∃ y : Int64, y = (w.toUInt64 >>> ((24 : Int32).toInt64.toUInt64 &&& Int64.toUInt64 63)).toInt64 := ⟨_, rfl⟩
              refine lv_lushr (pc := 70) (v := x71) C0.1 C0.2.1 dX10_feed_70 (by rw [ex71]) ?_
              refine lv_l2i (pc := 71) (v := x71.toInt32) C0.1 C0.2.1 dX10_feed_71 rfl ?_
              refine lv_i2b (pc := 72) (v := x71.toInt32.toInt8.toInt32) C0.1 C0.2.1 dX10_feed_72 rfl ?_
              refine xbast (pc := 73) (N := 600) C0 (Nat.le_of_ble_eq_true rfl) hH hS 85 ⟨Nat.le_of_ble_eq_true rfl, Nat.le_of_ble_eq_true rfl⟩ ⟨rfl, rfl⟩ (vin (by decide)) dX10_feed_73 (fun _ locs hH hS => ?_)
              have hH : Hd D tA b 78 52 zz i (va_up (va_up (va_up (va_up F 85 (upd (F 85) (Int32.toNatClampNeg 0) (Int8.toInt32 (Int32.toInt8 x62.toInt32.toInt8.toInt32)))) 85 (upd (upd (F 85) (Int32.toNatClampNeg 0) (Int8.toInt32 (Int32.toInt8 x62.toInt32.toInt8.toInt32))) (Int32.toNatClampNeg 1) (Int8.toInt32 (Int32.toInt8 x65.toInt32.toInt8.toInt32)))) 85 (upd (upd (upd (F 85) (Int32.toNatClampNeg 0) (Int8.toInt32 (Int32.toInt8 x62.toInt32.toInt8.toInt32))) (Int32.toNatClampNeg 1) (Int8.toInt32 (Int32.toInt8 x65.toInt32.toInt8.toInt32))) (Int32.toNatClampNeg 2) (Int8.toInt32 (Int32.toInt8 x68.toInt32.toInt8.toInt32)))) 85 (upd (upd (upd (upd (F 85) (Int32.toNatClampNeg 0) (Int8.toInt32 (Int32.toInt8 x62.toInt32.toInt8.toInt32))) (Int32.toNatClampNeg 1) (Int8.toInt32 (Int32.toInt8 x65.toInt32.toInt8.toInt32))) (Int32.toNatClampNeg 2) (Int8.toInt32 (Int32.toInt8 x68.toInt32.toInt8.toInt32))) (Int32.toNatClampNeg 3) (Int8.toInt32 (Int32.toInt8 x71.toInt32.toInt8.toInt32)))) G _ := hH
              refine lv_iinc (pc := 74) (v := 4) (lv' := [(4, .int 4), (3, .int 5), (0, .ref (b + 78)), (1, .long w)]) C0.1 C0.2.1 dX10_feed_74 hl (k := 0) rfl (by decide) (by decide) rfl (fun ls hl => ?_)
              refine lv_goto (pc := 77) (tgt := 47) C0.1 C0.2.1 dX10_feed_77 (by decide) ?_
              refine lv_iload (pc := 47) C0.1 C0.2.1 dX10_feed_47 (lv_at hl 0 rfl) ?_
              refine lv_iload_n (pc := 49) C0.1 C0.2.1 dX10_feed_49 rfl (lv_at hl 1 rfl) ?_
              refine lv_icmp_ge (pc := 50) (tgt := 80) C0.1 C0.2.1 dX10_feed_50 (by decide) (fun c => absurd c (by decide)) (fun _ => ?_)
              refine lv_aload_n (pc := 53) C0.1 C0.2.1 dX10_feed_53 rfl (lv_at hl 2 rfl) ?_
              refine xget (pc := 54) C0 hH 78 11 clX10 ⟨Nat.le_of_ble_eq_true rfl, Nat.le_of_ble_eq_true rfl⟩ ⟨rfl, rfl⟩ (Nat.le_of_ble_eq_true rfl) fl_X10_29 (v := .ref (b + 85)) rfl dX10_feed_54 ?_
              refine lv_aload_n (pc := 57) C0.1 C0.2.1 dX10_feed_57 rfl (lv_at hl 2 rfl) ?_
              refine xget (pc := 58) C0 hH 78 12 clX10 ⟨Nat.le_of_ble_eq_true rfl, Nat.le_of_ble_eq_true rfl⟩ ⟨rfl, rfl⟩ (Nat.le_of_ble_eq_true rfl) fl_X10_219 (v := .int 0) (congrArg Value.int hi_78_12) dX10_feed_58 ?_
              refine lv_iload (pc := 61) C0.1 C0.2.1 dX10_feed_61 (lv_at hl 0 rfl) ?_
              refine lv_iadd (pc := 63) C0.1 C0.2.1 dX10_feed_63 ?_
              refine lv_topi (fun q72 eq72 => ?_)
              obtain rfl : q72 = 4 := eq72.trans (by decide)
              refine lv_lload_n (pc := 64) C0.1 C0.2.1 dX10_feed_64 rfl (lv_at hl 3 rfl) ?_
              refine lv_bipush (pc := 65) (v := 8) C0.1 C0.2.1 dX10_feed_65 (by decide) ?_
              refine lv_iload (pc := 67) C0.1 C0.2.1 dX10_feed_67 (lv_at hl 0 rfl) ?_
              refine lv_imul (pc := 69) C0.1 C0.2.1 dX10_feed_69 ?_
              refine lv_topi (fun q73 eq73 => ?_)
              obtain rfl : q73 = 32 := eq73.trans (by decide)
              obtain ⟨x74, ex74⟩ : ∃ y : Int64, y = (w.toUInt64 >>> ((32 : Int32).toInt64.toUInt64 &&& Int64.toUInt64 63)).toInt64 := ⟨_, rfl⟩
              refine lv_lushr (pc := 70) (v := x74) C0.1 C0.2.1 dX10_feed_70 (by rw [ex74]) ?_
              refine lv_l2i (pc := 71) (v := x74.toInt32) C0.1 C0.2.1 dX10_feed_71 rfl ?_
              refine lv_i2b (pc := 72) (v := x74.toInt32.toInt8.toInt32) C0.1 C0.2.1 dX10_feed_72 rfl ?_
              refine xbast (pc := 73) (N := 600) C0 (Nat.le_of_ble_eq_true rfl) hH hS 85 ⟨Nat.le_of_ble_eq_true rfl, Nat.le_of_ble_eq_true rfl⟩ ⟨rfl, rfl⟩ (vin (by decide)) dX10_feed_73 (fun _ locs hH hS => ?_)
              have hH : Hd D tA b 78 52 zz i (va_up (va_up (va_up (va_up (va_up F 85 (upd (F 85) (Int32.toNatClampNeg 0) (Int8.toInt32 (Int32.toInt8 x62.toInt32.toInt8.toInt32)))) 85 (upd (upd (F 85) (Int32.toNatClampNeg 0) (Int8.toInt32 (Int32.toInt8 x62.toInt32.toInt8.toInt32))) (Int32.toNatClampNeg 1) (Int8.toInt32 (Int32.toInt8 x65.toInt32.toInt8.toInt32)))) 85 (upd (upd (upd (F 85) (Int32.toNatClampNeg 0) (Int8.toInt32 (Int32.toInt8 x62.toInt32.toInt8.toInt32))) (Int32.toNatClampNeg 1) (Int8.toInt32 (Int32.toInt8 x65.toInt32.toInt8.toInt32))) (Int32.toNatClampNeg 2) (Int8.toInt32 (Int32.toInt8 x68.toInt32.toInt8.toInt32)))) 85 (upd (upd (upd (upd (F 85) (Int32.toNatClampNeg 0) (Int8.toInt32 (Int32.toInt8 x62.toInt32.toInt8.toInt32))) (Int32.toNatClampNeg 1) (Int8.toInt32 (Int32.toInt8 x65.toInt32.toInt8.toInt32))) (Int32.toNatClampNeg 2) (Int8.toInt32 (Int32.toInt8 x68.toInt32.toInt8.toInt32))) (Int32.toNatClampNeg 3) (Int8.toInt32 (Int32.toInt8 x71.toInt32.toInt8.toInt32)))) 85 (upd (upd (upd (upd (upd (F 85) (Int32.toNatClampNeg 0) (Int8.toInt32 (Int32.toInt8 x62.toInt32.toInt8.toInt32))) (Int32.toNatClampNeg 1) (Int8.toInt32 (Int32.toInt8 x65.toInt32.toInt8.toInt32))) (Int32.toNatClampNeg 2) (Int8.toInt32 (Int32.toInt8 x68.toInt32.toInt8.toInt32))) (Int32.toNatClampNeg 3) (Int8.toInt32 (Int32.toInt8 x71.toInt32.toInt8.toInt32))) (Int32.toNatClampNeg 4) (Int8.toInt32 (Int32.toInt8 x74.toInt32.toInt8.toInt32)))) G _ := hH
              refine lv_iinc (pc := 74) (v := 5) (lv' := [(4, .int 5), (3, .int 5), (0, .ref (b + 78)), (1, .long w)]) C0.1 C0.2.1 dX10_feed_74 hl (k := 0) rfl (by decide) (by decide) rfl (fun ls hl => ?_)
              refine lv_goto (pc := 77) (tgt := 47) C0.1 C0.2.1 dX10_feed_77 (by decide) ?_
              refine lv_iload (pc := 47) C0.1 C0.2.1 dX10_feed_47 (lv_at hl 0 rfl) ?_
              refine lv_iload_n (pc := 49) C0.1 C0.2.1 dX10_feed_49 rfl (lv_at hl 1 rfl) ?_
              refine lv_icmp_ge (pc := 50) (tgt := 80) C0.1 C0.2.1 dX10_feed_50 (by decide) (fun _ => ?_) (fun c => absurd (by decide) c)
              refine lv_aload_n (pc := 80) C0.1 C0.2.1 dX10_feed_80 rfl (lv_at hl 2 rfl) ?_
              refine lv_dup (pc := 81) C0.1 C0.2.1 dX10_feed_81 rfl ?_
              refine xget (pc := 82) C0 hH 78 12 clX10 ⟨Nat.le_of_ble_eq_true rfl, Nat.le_of_ble_eq_true rfl⟩ ⟨rfl, rfl⟩ (Nat.le_of_ble_eq_true rfl) fl_X10_219 (v := .int 0) (congrArg Value.int hi_78_12) dX10_feed_82 ?_
              refine lv_iload_n (pc := 85) C0.1 C0.2.1 dX10_feed_85 rfl (lv_at hl 1 rfl) ?_
              refine lv_iadd (pc := 86) C0.1 C0.2.1 dX10_feed_86 ?_
              refine lv_topi (fun q75 eq75 => ?_)
              obtain rfl : q75 = 5 := eq75.trans (by decide)
              refine xputI (pc := 87) C0 (Nat.le_of_ble_eq_true rfl) hH hS 78 12 clX10 ⟨Nat.le_of_ble_eq_true rfl, Nat.le_of_ble_eq_true rfl⟩ ⟨rfl, rfl⟩ ⟨Nat.le_of_ble_eq_true rfl, rfl, rfl⟩ fl_X10_219 (x := 5) ⟨rfl, rfl⟩ dX10_feed_87 (fun _ locs hH hS _ => ?_)
              have hH : Hd D tA b 78 52 zz (up2 i 78 12 5) (va_up (va_up (va_up (va_up (va_up F 85 (upd (F 85) (Int32.toNatClampNeg 0) (Int8.toInt32 (Int32.toInt8 x62.toInt32.toInt8.toInt32)))) 85 (upd (upd (F 85) (Int32.toNatClampNeg 0) (Int8.toInt32 (Int32.toInt8 x62.toInt32.toInt8.toInt32))) (Int32.toNatClampNeg 1) (Int8.toInt32 (Int32.toInt8 x65.toInt32.toInt8.toInt32)))) 85 (upd (upd (upd (F 85) (Int32.toNatClampNeg 0) (Int8.toInt32 (Int32.toInt8 x62.toInt32.toInt8.toInt32))) (Int32.toNatClampNeg 1) (Int8.toInt32 (Int32.toInt8 x65.toInt32.toInt8.toInt32))) (Int32.toNatClampNeg 2) (Int8.toInt32 (Int32.toInt8 x68.toInt32.toInt8.toInt32)))) 85 (upd (upd (upd (upd (F 85) (Int32.toNatClampNeg 0) (Int8.toInt32 (Int32.toInt8 x62.toInt32.toInt8.toInt32))) (Int32.toNatClampNeg 1) (Int8.toInt32 (Int32.toInt8 x65.toInt32.toInt8.toInt32))) (Int32.toNatClampNeg 2) (Int8.toInt32 (Int32.toInt8 x68.toInt32.toInt8.toInt32))) (Int32.toNatClampNeg 3) (Int8.toInt32 (Int32.toInt8 x71.toInt32.toInt8.toInt32)))) 85 (upd (upd (upd (upd (upd (F 85) (Int32.toNatClampNeg 0) (Int8.toInt32 (Int32.toInt8 x62.toInt32.toInt8.toInt32))) (Int32.toNatClampNeg 1) (Int8.toInt32 (Int32.toInt8 x65.toInt32.toInt8.toInt32))) (Int32.toNatClampNeg 2) (Int8.toInt32 (Int32.toInt8 x68.toInt32.toInt8.toInt32))) (Int32.toNatClampNeg 3) (Int8.toInt32 (Int32.toInt8 x71.toInt32.toInt8.toInt32))) (Int32.toNatClampNeg 4) (Int8.toInt32 (Int32.toInt8 x74.toInt32.toInt8.toInt32)))) G _ := hH
              refine lv_aload_n (pc := 90) C0.1 C0.2.1 dX10_feed_90 rfl (lv_at hl 2 rfl) ?_
              refine lv_iconst (pc := 91) (v := 0) C0.1 C0.2.1 dX10_feed_91 (by decide) ?_
              refine xputI (pc := 92) C0 (Nat.le_of_ble_eq_true rfl) hH hS 78 15 clX10 ⟨Nat.le_of_ble_eq_true rfl, Nat.le_of_ble_eq_true rfl⟩ ⟨rfl, rfl⟩ ⟨Nat.le_of_ble_eq_true rfl, rfl, rfl⟩ fl_X10_211 (x := 0) ⟨rfl, rfl⟩ dX10_feed_92 (fun _ locs hH hS _ => ?_)
              have hH : Hd D tA b 78 52 zz (up2 (up2 i 78 12 5) 78 15 0) (va_up (va_up (va_up (va_up (va_up F 85 (upd (F 85) (Int32.toNatClampNeg 0) (Int8.toInt32 (Int32.toInt8 x62.toInt32.toInt8.toInt32)))) 85 (upd (upd (F 85) (Int32.toNatClampNeg 0) (Int8.toInt32 (Int32.toInt8 x62.toInt32.toInt8.toInt32))) (Int32.toNatClampNeg 1) (Int8.toInt32 (Int32.toInt8 x65.toInt32.toInt8.toInt32)))) 85 (upd (upd (upd (F 85) (Int32.toNatClampNeg 0) (Int8.toInt32 (Int32.toInt8 x62.toInt32.toInt8.toInt32))) (Int32.toNatClampNeg 1) (Int8.toInt32 (Int32.toInt8 x65.toInt32.toInt8.toInt32))) (Int32.toNatClampNeg 2) (Int8.toInt32 (Int32.toInt8 x68.toInt32.toInt8.toInt32)))) 85 (upd (upd (upd (upd (F 85) (Int32.toNatClampNeg 0) (Int8.toInt32 (Int32.toInt8 x62.toInt32.toInt8.toInt32))) (Int32.toNatClampNeg 1) (Int8.toInt32 (Int32.toInt8 x65.toInt32.toInt8.toInt32))) (Int32.toNatClampNeg 2) (Int8.toInt32 (Int32.toInt8 x68.toInt32.toInt8.toInt32))) (Int32.toNatClampNeg 3) (Int8.toInt32 (Int32.toInt8 x71.toInt32.toInt8.toInt32)))) 85 (upd (upd (upd (upd (upd (F 85) (Int32.toNatClampNeg 0) (Int8.toInt32 (Int32.toInt8 x62.toInt32.toInt8.toInt32))) (Int32.toNatClampNeg 1) (Int8.toInt32 (Int32.toInt8 x65.toInt32.toInt8.toInt32))) (Int32.toNatClampNeg 2) (Int8.toInt32 (Int32.toInt8 x68.toInt32.toInt8.toInt32))) (Int32.toNatClampNeg 3) (Int8.toInt32 (Int32.toInt8 x71.toInt32.toInt8.toInt32))) (Int32.toNatClampNeg 4) (Int8.toInt32 (Int32.toInt8 x74.toInt32.toInt8.toInt32)))) G _ := hH
              refine lv_aload_n (pc := 95) C0.1 C0.2.1 dX10_feed_95 rfl (lv_at hl 2 rfl) ?_
              refine xget (pc := 96) C0 hH 78 12 clX10 ⟨Nat.le_of_ble_eq_true rfl, Nat.le_of_ble_eq_true rfl⟩ ⟨rfl, rfl⟩ (Nat.le_of_ble_eq_true rfl) fl_X10_219 (v := .int 5) rfl dX10_feed_96 ?_
              exact xiret (pc := 99) C0 hr hH hS dX10_feed_99 (by rw [show zl w = 5 from by unfold zl; simp only [z0, z1, z2, z3, z4, z5, if_true, if_false]]; rfl)
            · have z5 : ¬ bt w 5 = 0 := fun q => z5 ((lg_cmp_eq _ _).mpr (by rw [q]; rfl))
              refine lv_iinc (pc := 23) (v := 6) (lv' := [(3, .int 6), (0, .ref (b + 78)), (1, .long w)]) C0.1 C0.2.1 dX10_feed_23 hl (k := 0) rfl (by decide) (by decide) rfl (fun ls hl => ?_)
              refine lv_goto (pc := 26) (tgt := 2) C0.1 C0.2.1 dX10_feed_26 (by decide) ?_
              refine lv_iload_n (pc := 2) C0.1 C0.2.1 dX10_feed_2 rfl (lv_at hl 0 rfl) ?_
              refine lv_bipush (pc := 3) (v := 8) C0.1 C0.2.1 dX10_feed_3 (by decide) ?_
              refine lv_icmp_ge (pc := 5) (tgt := 29) C0.1 C0.2.1 dX10_feed_5 (by decide) (fun c => absurd c (by decide)) (fun _ => ?_)
              refine lv_lload_n (pc := 8) C0.1 C0.2.1 dX10_feed_8 rfl (lv_at hl 2 rfl) ?_
              refine lv_bipush (pc := 9) (v := 8) C0.1 C0.2.1 dX10_feed_9 (by decide) ?_
              refine lv_iload_n (pc := 11) C0.1 C0.2.1 dX10_feed_11 rfl (lv_at hl 0 rfl) ?_
              refine lv_imul (pc := 12) C0.1 C0.2.1 dX10_feed_12 ?_
              refine lv_topi (fun q76 eq76 => ?_)
              obtain rfl : q76 = 48 := eq76.trans (by decide)
              obtain ⟨x77, ex77⟩ : ∃ y : Int64, y = (w.toUInt64 >>> ((48 : Int32).toInt64.toUInt64 &&& Int64.toUInt64 63)).toInt64 := ⟨_, rfl⟩
              refine lv_lushr (pc := 13) (v := x77) C0.1 C0.2.1 dX10_feed_13 (by rw [ex77]) ?_
              refine lv_ldc2 (pc := 14) C0.1 C0.2.1 C0.2.2.2.1 (C0.2.2.2.2.1 _ kl_X10_169) dX10_feed_14 ?_
              refine lv_land (pc := 17) C0.1 C0.2.1 dX10_feed_17 ?_
              refine lv_topl (fun q78 eq78 => ?_)
              obtain rfl : q78 = lN (bt w 6) := by rw [eq78]; rw [ex77, show (48 : Int32) = 8 * nI 6 from by decide]; exact bt_m w (by decide)
              refine lv_lconst (pc := 18) (v := 0) C0.1 C0.2.1 dX10_feed_18 (by decide) ?_
              refine W.lcmp (pc := 19) C0.1 C0.2.1 dX10_feed_19 ?_
              refine lv_if_eq (pc := 20) (tgt := 29) C0.1 C0.2.1 dX10_feed_20 (by decide) (fun z6 => ?_) (fun z6 => ?_)
              · have z6 := lN0 (bt_lb _ _) ((lg_cmp_eq _ _).mp z6)
                refine lv_aload_n (pc := 29) C0.1 C0.2.1 dX10_feed_29 rfl (lv_at hl 1 rfl) ?_
                refine xget (pc := 30) C0 hH 78 12 clX10 ⟨Nat.le_of_ble_eq_true rfl, Nat.le_of_ble_eq_true rfl⟩ ⟨rfl, rfl⟩ (Nat.le_of_ble_eq_true rfl) fl_X10_219 (v := .int 0) (congrArg Value.int hi_78_12) dX10_feed_30 ?_
                refine lv_iload_n (pc := 33) C0.1 C0.2.1 dX10_feed_33 rfl (lv_at hl 0 rfl) ?_
                refine lv_iadd (pc := 34) C0.1 C0.2.1 dX10_feed_34 ?_
                refine lv_topi (fun q79 eq79 => ?_)
                obtain rfl : q79 = 6 := eq79.trans (by decide)
                refine lv_sipush (pc := 35) (v := 600) C0.1 C0.2.1 dX10_feed_35 (by decide) ?_
                refine lv_icmp_le (pc := 38) (tgt := 44) C0.1 C0.2.1 dX10_feed_38 (by decide) (fun _ => ?_) (fun c => absurd (by decide) c)
                refine lv_iconst (pc := 44) (v := 0) C0.1 C0.2.1 dX10_feed_44 (by decide) ?_
                refine lv_istore (pc := 45) (lv' := [(4, .int 0), (3, .int 6), (0, .ref (b + 78)), (1, .long w)]) C0.1 C0.2.1 dX10_feed_45 hl (by decide) rfl (fun ls hl => ?_)
                refine lv_iload (pc := 47) C0.1 C0.2.1 dX10_feed_47 (lv_at hl 0 rfl) ?_
                refine lv_iload_n (pc := 49) C0.1 C0.2.1 dX10_feed_49 rfl (lv_at hl 1 rfl) ?_
                refine lv_icmp_ge (pc := 50) (tgt := 80) C0.1 C0.2.1 dX10_feed_50 (by decide) (fun c => absurd c (by decide)) (fun _ => ?_)
                refine lv_aload_n (pc := 53) C0.1 C0.2.1 dX10_feed_53 rfl (lv_at hl 2 rfl) ?_
                refine xget (pc := 54) C0 hH 78 11 clX10 ⟨Nat.le_of_ble_eq_true rfl, Nat.le_of_ble_eq_true rfl⟩ ⟨rfl, rfl⟩ (Nat.le_of_ble_eq_true rfl) fl_X10_29 (v := .ref (b + 85)) rfl dX10_feed_54 ?_
                refine lv_aload_n (pc := 57) C0.1 C0.2.1 dX10_feed_57 rfl (lv_at hl 2 rfl) ?_
                refine xget (pc := 58) C0 hH 78 12 clX10 ⟨Nat.le_of_ble_eq_true rfl, Nat.le_of_ble_eq_true rfl⟩ ⟨rfl, rfl⟩ (Nat.le_of_ble_eq_true rfl) fl_X10_219 (v := .int 0) (congrArg Value.int hi_78_12) dX10_feed_58 ?_
                refine lv_iload (pc := 61) C0.1 C0.2.1 dX10_feed_61 (lv_at hl 0 rfl) ?_
                refine lv_iadd (pc := 63) C0.1 C0.2.1 dX10_feed_63 ?_
                refine lv_topi (fun q80 eq80 => ?_)
                obtain rfl : q80 = 0 := eq80.trans (by decide)
                refine lv_lload_n (pc := 64) C0.1 C0.2.1 dX10_feed_64 rfl (lv_at hl 3 rfl) ?_
                refine lv_bipush (pc := 65) (v := 8) C0.1 C0.2.1 dX10_feed_65 (by decide) ?_
                refine lv_iload (pc := 67) C0.1 C0.2.1 dX10_feed_67 (lv_at hl 0 rfl) ?_
                refine lv_imul (pc := 69) C0.1 C0.2.1 dX10_feed_69 ?_
                refine lv_topi (fun q81 eq81 => ?_)
                obtain rfl : q81 = 0 := eq81.trans (by decide)
                obtain ⟨x82, ex82⟩ : ∃ y : Int64, y = (w.toUInt64 >>> ((0 : Int32).toInt64.toUInt64 &&& Int64.toUInt64 63)).toInt64 := ⟨_, rfl⟩
                refine lv_lushr (pc := 70) (v := x82) C0.1 C0.2.1 dX10_feed_70 (by rw [ex82]) ?_
                refine lv_l2i (pc := 71) (v := x82.toInt32) C0.1 C0.2.1 dX10_feed_71 rfl ?_
                refine lv_i2b (pc := 72) (v := x82.toInt32.toInt8.toInt32) C0.1 C0.2.1 dX10_feed_72 rfl ?_
                refine xbast (pc := 73) (N := 600) C0 (Nat.le_of_ble_eq_true rfl) hH hS 85 ⟨Nat.le_of_ble_eq_true rfl, Nat.le_of_ble_eq_true rfl⟩ ⟨rfl, rfl⟩ (vin (by decide)) dX10_feed_73 (fun _ locs hH hS => ?_)
                have hH : Hd D tA b 78 52 zz i (va_up F 85 (upd (F 85) (Int32.toNatClampNeg 0) (Int8.toInt32 (Int32.toInt8 x82.toInt32.toInt8.toInt32)))) G _ := hH
                refine lv_iinc (pc := 74) (v := 1) (lv' := [(4, .int 1), (3, .int 6), (0, .ref (b + 78)), (1, .long w)]) C0.1 C0.2.1 dX10_feed_74 hl (k := 0) rfl (by decide) (by decide) rfl (fun ls hl => ?_)
                refine lv_goto (pc := 77) (tgt := 47) C0.1 C0.2.1 dX10_feed_77 (by decide) ?_
                refine lv_iload (pc := 47) C0.1 C0.2.1 dX10_feed_47 (lv_at hl 0 rfl) ?_
                refine lv_iload_n (pc := 49) C0.1 C0.2.1 dX10_feed_49 rfl (lv_at hl 1 rfl) ?_
                refine lv_icmp_ge (pc := 50) (tgt := 80) C0.1 C0.2.1 dX10_feed_50 (by decide) (fun c => absurd c (by decide)) (fun _ => ?_)
                refine lv_aload_n (pc := 53) C0.1 C0.2.1 dX10_feed_53 rfl (lv_at hl 2 rfl) ?_
                refine xget (pc := 54) C0 hH 78 11 clX10 ⟨Nat.le_of_ble_eq_true rfl, Nat.le_of_ble_eq_true rfl⟩ ⟨rfl, rfl⟩ (Nat.le_of_ble_eq_true rfl) fl_X10_29 (v := .ref (b + 85)) rfl dX10_feed_54 ?_
                refine lv_aload_n (pc := 57) C0.1 C0.2.1 dX10_feed_57 rfl (lv_at hl 2 rfl) ?_
                refine xget (pc := 58) C0 hH 78 12 clX10 ⟨Nat.le_of_ble_eq_true rfl, Nat.le_of_ble_eq_true rfl⟩ ⟨rfl, rfl⟩ (Nat.le_of_ble_eq_true rfl) fl_X10_219 (v := .int 0) (congrArg Value.int hi_78_12) dX10_feed_58 ?_
                refine lv_iload (pc := 61) C0.1 C0.2.1 dX10_feed_61 (lv_at hl 0 rfl) ?_
                refine lv_iadd (pc := 63) C0.1 C0.2.1 dX10_feed_63 ?_
                refine lv_topi (fun q83 eq83 => ?_)
                obtain rfl : q83 = 1 := eq83.trans (by decide)
                refine lv_lload_n (pc := 64) C0.1 C0.2.1 dX10_feed_64 rfl (lv_at hl 3 rfl) ?_
                refine lv_bipush (pc := 65) (v := 8) C0.1 C0.2.1 dX10_feed_65 (by decide) ?_
                refine lv_iload (pc := 67) C0.1 C0.2.1 dX10_feed_67 (lv_at hl 0 rfl) ?_
                refine lv_imul (pc := 69) C0.1 C0.2.1 dX10_feed_69 ?_
                refine lv_topi (fun q84 eq84 => ?_)
                obtain rfl : q84 = 8 := eq84.trans (by decide)
                obtain ⟨x85, ex85⟩ : ∃ y : Int64, y = (w.toUInt64 >>> ((8 : Int32).toInt64.toUInt64 &&& Int64.toUInt64 63)).toInt64 := ⟨_, rfl⟩
                refine lv_lushr (pc := 70) (v := x85) C0.1 C0.2.1 dX10_feed_70 (by rw [ex85]) ?_
                refine lv_l2i (pc := 71) (v := x85.toInt32) C0.1 C0.2.1 dX10_feed_71 rfl ?_
                refine lv_i2b (pc := 72) (v := x85.toInt32.toInt8.toInt32) C0.1 C0.2.1 dX10_feed_72 rfl ?_
                refine xbast (pc := 73) (N := 600) C0 (Nat.le_of_ble_eq_true rfl) hH hS 85 ⟨Nat.le_of_ble_eq_true rfl, Nat.le_of_ble_eq_true rfl⟩ ⟨rfl, rfl⟩ (vin (by decide)) dX10_feed_73 (fun _ locs hH hS => ?_)
                have hH : Hd D tA b 78 52 zz i (va_up (va_up F 85 (upd (F 85) (Int32.toNatClampNeg 0) (Int8.toInt32 (Int32.toInt8 x82.toInt32.toInt8.toInt32)))) 85 (upd (upd (F 85) (Int32.toNatClampNeg 0) (Int8.toInt32 (Int32.toInt8 x82.toInt32.toInt8.toInt32))) (Int32.toNatClampNeg 1) (Int8.toInt32 (Int32.toInt8 x85.toInt32.toInt8.toInt32)))) G _ := hH
                refine lv_iinc (pc := 74) (v := 2) (lv' := [(4, .int 2), (3, .int 6), (0, .ref (b + 78)), (1, .long w)]) C0.1 C0.2.1 dX10_feed_74 hl (k := 0) rfl (by decide) (by decide) rfl (fun ls hl => ?_)
                refine lv_goto (pc := 77) (tgt := 47) C0.1 C0.2.1 dX10_feed_77 (by decide) ?_
                refine lv_iload (pc := 47) C0.1 C0.2.1 dX10_feed_47 (lv_at hl 0 rfl) ?_
                refine lv_iload_n (pc := 49) C0.1 C0.2.1 dX10_feed_49 rfl (lv_at hl 1 rfl) ?_
                refine lv_icmp_ge (pc := 50) (tgt := 80) C0.1 C0.2.1 dX10_feed_50 (by decide) (fun c => absurd c (by decide)) (fun _ => ?_)
                refine lv_aload_n (pc := 53) C0.1 C0.2.1 dX10_feed_53 rfl (lv_at hl 2 rfl) ?_
                refine xget (pc := 54) C0 hH 78 11 clX10 ⟨Nat.le_of_ble_eq_true rfl, Nat.le_of_ble_eq_true rfl⟩ ⟨rfl, rfl⟩ (Nat.le_of_ble_eq_true rfl) fl_X10_29 (v := .ref (b + 85)) rfl dX10_feed_54 ?_
                refine lv_aload_n (pc := 57) C0.1 C0.2.1 dX10_feed_57 rfl (lv_at hl 2 rfl) ?_
                refine xget (pc := 58) C0 hH 78 12 clX10 ⟨Nat.le_of_ble_eq_true rfl, Nat.le_of_ble_eq_true rfl⟩ ⟨rfl, rfl⟩ (Nat.le_of_ble_eq_true rfl) fl_X10_219 (v := .int 0) (congrArg Value.int hi_78_12) dX10_feed_58 ?_
                refine lv_iload (pc := 61) C0.1 C0.2.1 dX10_feed_61 (lv_at hl 0 rfl) ?_
                refine lv_iadd (pc := 63) C0.1 C0.2.1 dX10_feed_63 ?_
                refine lv_topi (fun q86 eq86 => ?_)
                obtain rfl : q86 = 2 := eq86.trans (by decide)
                refine lv_lload_n (pc := 64) C0.1 C0.2.1 dX10_feed_64 rfl (lv_at hl 3 rfl) ?_
                refine lv_bipush (pc := 65) (v := 8) C0.1 C0.2.1 dX10_feed_65 (by decide) ?_
                refine lv_iload (pc := 67) C0.1 C0.2.1 dX10_feed_67 (lv_at hl 0 rfl) ?_
                refine lv_imul (pc := 69) C0.1 C0.2.1 dX10_feed_69 ?_
                refine lv_topi (fun q87 eq87 => ?_)
                obtain rfl : q87 = 16 := eq87.trans (by decide)
                obtain ⟨x88, ex88⟩ : ∃ y : Int64, y = (w.toUInt64 >>> ((16 : Int32).toInt64.toUInt64 &&& Int64.toUInt64 63)).toInt64 := ⟨_, rfl⟩
                refine lv_lushr (pc := 70) (v := x88) C0.1 C0.2.1 dX10_feed_70 (by rw [ex88]) ?_
                refine lv_l2i (pc := 71) (v := x88.toInt32) C0.1 C0.2.1 dX10_feed_71 rfl ?_
                refine lv_i2b (pc := 72) (v := x88.toInt32.toInt8.toInt32) C0.1 C0.2.1 dX10_feed_72 rfl ?_
                refine xbast (pc := 73) (N := 600) C0 (Nat.le_of_ble_eq_true rfl) hH hS 85 ⟨Nat.le_of_ble_eq_true rfl, Nat.le_of_ble_eq_true rfl⟩ ⟨rfl, rfl⟩ (vin (by decide)) dX10_feed_73 (fun _ locs hH hS => ?_)
                have hH : Hd D tA b 78 52 zz i (va_up (va_up (va_up F 85 (upd (F 85) (Int32.toNatClampNeg 0) (Int8.toInt32 (Int32.toInt8 x82.toInt32.toInt8.toInt32)))) 85 (upd (upd (F 85) (Int32.toNatClampNeg 0) (Int8.toInt32 (Int32.toInt8 x82.toInt32.toInt8.toInt32))) (Int32.toNatClampNeg 1) (Int8.toInt32 (Int32.toInt8 x85.toInt32.toInt8.toInt32)))) 85 (upd (upd (upd (F 85) (Int32.toNatClampNeg 0) (Int8.toInt32 (Int32.toInt8 x82.toInt32.toInt8.toInt32))) (Int32.toNatClampNeg 1) (Int8.toInt32 (Int32.toInt8 x85.toInt32.toInt8.toInt32))) (Int32.toNatClampNeg 2) (Int8.toInt32 (Int32.toInt8 x88.toInt32.toInt8.toInt32)))) G _ := hH
                refine lv_iinc (pc := 74) (v := 3) (lv' := [(4, .int 3), (3, .int 6), (0, .ref (b + 78)), (1, .long w)]) C0.1 C0.2.1 dX10_feed_74 hl (k := 0) rfl (by decide) (by decide) rfl (fun ls hl => ?_)
                refine lv_goto (pc := 77) (tgt := 47) C0.1 C0.2.1 dX10_feed_77 (by decide) ?_
                refine lv_iload (pc := 47) C0.1 C0.2.1 dX10_feed_47 (lv_at hl 0 rfl) ?_
                refine lv_iload_n (pc := 49) C0.1 C0.2.1 dX10_feed_49 rfl (lv_at hl 1 rfl) ?_
                refine lv_icmp_ge (pc := 50) (tgt := 80) C0.1 C0.2.1 dX10_feed_50 (by decide) (fun c => absurd c (by decide)) (fun _ => ?_)
                refine lv_aload_n (pc := 53) C0.1 C0.2.1 dX10_feed_53 rfl (lv_at hl 2 rfl) ?_
                refine xget (pc := 54) C0 hH 78 11 clX10 ⟨Nat.le_of_ble_eq_true rfl, Nat.le_of_ble_eq_true rfl⟩ ⟨rfl, rfl⟩ (Nat.le_of_ble_eq_true rfl) fl_X10_29 (v := .ref (b + 85)) rfl dX10_feed_54 ?_
                refine lv_aload_n (pc := 57) C0.1 C0.2.1 dX10_feed_57 rfl (lv_at hl 2 rfl) ?_
                refine xget (pc := 58) C0 hH 78 12 clX10 ⟨Nat.le_of_ble_eq_true rfl, Nat.le_of_ble_eq_true rfl⟩ ⟨rfl, rfl⟩ (Nat.le_of_ble_eq_true rfl) fl_X10_219 (v := .int 0) (congrArg Value.int hi_78_12) dX10_feed_58 ?_
                refine lv_iload (pc := 61) C0.1 C0.2.1 dX10_feed_61 (lv_at hl 0 rfl) ?_
                refine lv_iadd (pc := 63) C0.1 C0.2.1 dX10_feed_63 ?_
                refine lv_topi (fun q89 eq89 => ?_)
                obtain rfl : q89 = 3 := eq89.trans (by decide)
                refine lv_lload_n (pc := 64) C0.1 C0.2.1 dX10_feed_64 rfl (lv_at hl 3 rfl) ?_
                refine lv_bipush (pc := 65) (v := 8) C0.1 C0.2.1 dX10_feed_65 (by decide) ?_
                refine lv_iload (pc := 67) C0.1 C0.2.1 dX10_feed_67 (lv_at hl 0 rfl) ?_
                refine lv_imul (pc := 69) C0.1 C0.2.1 dX10_feed_69 ?_
                refine lv_topi (fun q90 eq90 => ?_)
                obtain rfl : q90 = 24 := eq90.trans (by decide)
                obtain ⟨x91, ex91⟩ : ∃ y : Int64, y = (w.toUInt64 >>> ((24 : Int32).toInt64.toUInt64 &&& Int64.toUInt64 63)).toInt64 := ⟨_, rfl⟩
                refine lv_lushr (pc := 70) (v := x91) C0.1 C0.2.1 dX10_feed_70 (by rw [ex91]) ?_
                refine lv_l2i (pc := 71) (v := x91.toInt32) C0.1 C0.2.1 dX10_feed_71 rfl ?_
                refine lv_i2b (pc := 72) (v := x91.toInt32.toInt8.toInt32) C0.1 C0.2.1 dX10_feed_72 rfl ?_
                refine xbast (pc := 73) (N := 600) C0 (Nat.le_of_ble_eq_true rfl) hH hS 85 ⟨Nat.le_of_ble_eq_true rfl, Nat.le_of_ble_eq_true rfl⟩ ⟨rfl, rfl⟩ (vin (by decide)) dX10_feed_73 (fun _ locs hH hS => ?_)
                have hH : Hd D tA b 78 52 zz i (va_up (va_up (va_up (va_up F 85 (upd (F 85) (Int32.toNatClampNeg 0) (Int8.toInt32 (Int32.toInt8 x82.toInt32.toInt8.toInt32)))) 85 (upd (upd (F 85) (Int32.toNatClampNeg 0) (Int8.toInt32 (Int32.toInt8 x82.toInt32.toInt8.toInt32))) (Int32.toNatClampNeg 1) (Int8.toInt32 (Int32.toInt8 x85.toInt32.toInt8.toInt32)))) 85 (upd (upd (upd (F 85) (Int32.toNatClampNeg 0) (Int8.toInt32 (Int32.toInt8 x82.toInt32.toInt8.toInt32))) (Int32.toNatClampNeg 1) (Int8.toInt32 (Int32.toInt8 x85.toInt32.toInt8.toInt32))) (Int32.toNatClampNeg 2) (Int8.toInt32 (Int32.toInt8 x88.toInt32.toInt8.toInt32)))) 85 (upd (upd (upd (upd (F 85) (Int32.toNatClampNeg 0) (Int8.toInt32 (Int32.toInt8 x82.toInt32.toInt8.toInt32))) (Int32.toNatClampNeg 1) (Int8.toInt32 (Int32.toInt8 x85.toInt32.toInt8.toInt32))) (Int32.toNatClampNeg 2) (Int8.toInt32 (Int32.toInt8 x88.toInt32.toInt8.toInt32))) (Int32.toNatClampNeg 3) (Int8.toInt32 (Int32.toInt8 x91.toInt32.toInt8.toInt32)))) G _ := hH
                refine lv_iinc (pc := 74) (v := 4) (lv' := [(4, .int 4), (3, .int 6), (0, .ref (b + 78)), (1, .long w)]) C0.1 C0.2.1 dX10_feed_74 hl (k := 0) rfl (by decide) (by decide) rfl (fun ls hl => ?_)
                refine lv_goto (pc := 77) (tgt := 47) C0.1 C0.2.1 dX10_feed_77 (by decide) ?_
                refine lv_iload (pc := 47) C0.1 C0.2.1 dX10_feed_47 (lv_at hl 0 rfl) ?_
                refine lv_iload_n (pc := 49) C0.1 C0.2.1 dX10_feed_49 rfl (lv_at hl 1 rfl) ?_
                refine lv_icmp_ge (pc := 50) (tgt := 80) C0.1 C0.2.1 dX10_feed_50 (by decide) (fun c => absurd c (by decide)) (fun _ => ?_)
                refine lv_aload_n (pc := 53) C0.1 C0.2.1 dX10_feed_53 rfl (lv_at hl 2 rfl) ?_
                refine xget (pc := 54) C0 hH 78 11 clX10 ⟨Nat.le_of_ble_eq_true rfl, Nat.le_of_ble_eq_true rfl⟩ ⟨rfl, rfl⟩ (Nat.le_of_ble_eq_true rfl) fl_X10_29 (v := .ref (b + 85)) rfl dX10_feed_54 ?_
                refine lv_aload_n (pc := 57) C0.1 C0.2.1 dX10_feed_57 rfl (lv_at hl 2 rfl) ?_
                refine xget (pc := 58) C0 hH 78 12 clX10 ⟨Nat.le_of_ble_eq_true rfl, Nat.le_of_ble_eq_true rfl⟩ ⟨rfl, rfl⟩ (Nat.le_of_ble_eq_true rfl) fl_X10_219 (v := .int 0) (congrArg Value.int hi_78_12) dX10_feed_58 ?_
                refine lv_iload (pc := 61) C0.1 C0.2.1 dX10_feed_61 (lv_at hl 0 rfl) ?_
                refine lv_iadd (pc := 63) C0.1 C0.2.1 dX10_feed_63 ?_
                refine lv_topi (fun q92 eq92 => ?_)
                obtain rfl : q92 = 4 := eq92.trans (by decide)
                refine lv_lload_n (pc := 64) C0.1 C0.2.1 dX10_feed_64 rfl (lv_at hl 3 rfl) ?_
                refine lv_bipush (pc := 65) (v := 8) C0.1 C0.2.1 dX10_feed_65 (by decide) ?_
                refine lv_iload (pc := 67) C0.1 C0.2.1 dX10_feed_67 (lv_at hl 0 rfl) ?_
                refine lv_imul (pc := 69) C0.1 C0.2.1 dX10_feed_69 ?_
                refine lv_topi (fun q93 eq93 => ?_)
                obtain rfl : q93 = 32 := eq93.trans (by decide)
                obtain ⟨x94, ex94⟩ : ∃ y : Int64, y = (w.toUInt64 >>> ((32 : Int32).toInt64.toUInt64 &&& Int64.toUInt64 63)).toInt64 := ⟨_, rfl⟩
                refine lv_lushr (pc := 70) (v := x94) C0.1 C0.2.1 dX10_feed_70 (by rw [ex94]) ?_
                refine lv_l2i (pc := 71) (v := x94.toInt32) C0.1 C0.2.1 dX10_feed_71 rfl ?_
                refine lv_i2b (pc := 72) (v := x94.toInt32.toInt8.toInt32) C0.1 C0.2.1 dX10_feed_72 rfl ?_
                refine xbast (pc := 73) (N := 600) C0 (Nat.le_of_ble_eq_true rfl) hH hS 85 ⟨Nat.le_of_ble_eq_true rfl, Nat.le_of_ble_eq_true rfl⟩ ⟨rfl, rfl⟩ (vin (by decide)) dX10_feed_73 (fun _ locs hH hS => ?_)
                have hH : Hd D tA b 78 52 zz i (va_up (va_up (va_up (va_up (va_up F 85 (upd (F 85) (Int32.toNatClampNeg 0) (Int8.toInt32 (Int32.toInt8 x82.toInt32.toInt8.toInt32)))) 85 (upd (upd (F 85) (Int32.toNatClampNeg 0) (Int8.toInt32 (Int32.toInt8 x82.toInt32.toInt8.toInt32))) (Int32.toNatClampNeg 1) (Int8.toInt32 (Int32.toInt8 x85.toInt32.toInt8.toInt32)))) 85 (upd (upd (upd (F 85) (Int32.toNatClampNeg 0) (Int8.toInt32 (Int32.toInt8 x82.toInt32.toInt8.toInt32))) (Int32.toNatClampNeg 1) (Int8.toInt32 (Int32.toInt8 x85.toInt32.toInt8.toInt32))) (Int32.toNatClampNeg 2) (Int8.toInt32 (Int32.toInt8 x88.toInt32.toInt8.toInt32)))) 85 (upd (upd (upd (upd (F 85) (Int32.toNatClampNeg 0) (Int8.toInt32 (Int32.toInt8 x82.toInt32.toInt8.toInt32))) (Int32.toNatClampNeg 1) (Int8.toInt32 (Int32.toInt8 x85.toInt32.toInt8.toInt32))) (Int32.toNatClampNeg 2) (Int8.toInt32 (Int32.toInt8 x88.toInt32.toInt8.toInt32))) (Int32.toNatClampNeg 3) (Int8.toInt32 (Int32.toInt8 x91.toInt32.toInt8.toInt32)))) 85 (upd (upd (upd (upd (upd (F 85) (Int32.toNatClampNeg 0) (Int8.toInt32 (Int32.toInt8 x82.toInt32.toInt8.toInt32))) (Int32.toNatClampNeg 1) (Int8.toInt32 (Int32.toInt8 x85.toInt32.toInt8.toInt32))) (Int32.toNatClampNeg 2) (Int8.toInt32 (Int32.toInt8 x88.toInt32.toInt8.toInt32))) (Int32.toNatClampNeg 3) (Int8.toInt32 (Int32.toInt8 x91.toInt32.toInt8.toInt32))) (Int32.toNatClampNeg 4) (Int8.toInt32 (Int32.toInt8 x94.toInt32.toInt8.toInt32)))) G _ := hH
                refine lv_iinc (pc := 74) (v := 5) (lv' := [(4, .int 5), (3, .int 6), (0, .ref (b + 78)), (1, .long w)]) C0.1 C0.2.1 dX10_feed_74 hl (k := 0) rfl (by decide) (by decide) rfl (fun ls hl => ?_)
                refine lv_goto (pc := 77) (tgt := 47) C0.1 C0.2.1 dX10_feed_77 (by decide) ?_
                refine lv_iload (pc := 47) C0.1 C0.2.1 dX10_feed_47 (lv_at hl 0 rfl) ?_
                refine lv_iload_n (pc := 49) C0.1 C0.2.1 dX10_feed_49 rfl (lv_at hl 1 rfl) ?_
                refine lv_icmp_ge (pc := 50) (tgt := 80) C0.1 C0.2.1 dX10_feed_50 (by decide) (fun c => absurd c (by decide)) (fun _ => ?_)
                refine lv_aload_n (pc := 53) C0.1 C0.2.1 dX10_feed_53 rfl (lv_at hl 2 rfl) ?_
                refine xget (pc := 54) C0 hH 78 11 clX10 ⟨Nat.le_of_ble_eq_true rfl, Nat.le_of_ble_eq_true rfl⟩ ⟨rfl, rfl⟩ (Nat.le_of_ble_eq_true rfl) fl_X10_29 (v := .ref (b + 85)) rfl dX10_feed_54 ?_
                refine lv_aload_n (pc := 57) C0.1 C0.2.1 dX10_feed_57 rfl (lv_at hl 2 rfl) ?_
                refine xget (pc := 58) C0 hH 78 12 clX10 ⟨Nat.le_of_ble_eq_true rfl, Nat.le_of_ble_eq_true rfl⟩ ⟨rfl, rfl⟩ (Nat.le_of_ble_eq_true rfl) fl_X10_219 (v := .int 0) (congrArg Value.int hi_78_12) dX10_feed_58 ?_
                refine lv_iload (pc := 61) C0.1 C0.2.1 dX10_feed_61 (lv_at hl 0 rfl) ?_
                refine lv_iadd (pc := 63) C0.1 C0.2.1 dX10_feed_63 ?_
                refine lv_topi (fun q95 eq95 => ?_)
                obtain rfl : q95 = 5 := eq95.trans (by decide)
                refine lv_lload_n (pc := 64) C0.1 C0.2.1 dX10_feed_64 rfl (lv_at hl 3 rfl) ?_
                refine lv_bipush (pc := 65) (v := 8) C0.1 C0.2.1 dX10_feed_65 (by decide) ?_
                refine lv_iload (pc := 67) C0.1 C0.2.1 dX10_feed_67 (lv_at hl 0 rfl) ?_
                refine lv_imul (pc := 69) C0.1 C0.2.1 dX10_feed_69 ?_
                refine lv_topi (fun q96 eq96 => ?_)
                obtain rfl : q96 = 40 := eq96.trans (by decide)
                obtain ⟨x97, ex97⟩ : ∃ y : Int64, y = (w.toUInt64 >>> ((40 : Int32).toInt64.toUInt64 &&& Int64.toUInt64 63)).toInt64 := ⟨_, rfl⟩
                refine lv_lushr (pc := 70) (v := x97) C0.1 C0.2.1 dX10_feed_70 (by rw [ex97]) ?_
                refine lv_l2i (pc := 71) (v := x97.toInt32) C0.1 C0.2.1 dX10_feed_71 rfl ?_
                refine lv_i2b (pc := 72) (v := x97.toInt32.toInt8.toInt32) C0.1 C0.2.1 dX10_feed_72 rfl ?_
                refine xbast (pc := 73) (N := 600) C0 (Nat.le_of_ble_eq_true rfl) hH hS 85 ⟨Nat.le_of_ble_eq_true rfl, Nat.le_of_ble_eq_true rfl⟩ ⟨rfl, rfl⟩ (vin (by decide)) dX10_feed_73 (fun _ locs hH hS => ?_)
                have hH : Hd D tA b 78 52 zz i (va_up (va_up (va_up (va_up (va_up (va_up F 85 (upd (F 85) (Int32.toNatClampNeg 0) (Int8.toInt32 (Int32.toInt8 x82.toInt32.toInt8.toInt32)))) 85 (upd (upd (F 85) (Int32.toNatClampNeg 0) (Int8.toInt32 (Int32.toInt8 x82.toInt32.toInt8.toInt32))) (Int32.toNatClampNeg 1) (Int8.toInt32 (Int32.toInt8 x85.toInt32.toInt8.toInt32)))) 85 (upd (upd (upd (F 85) (Int32.toNatClampNeg 0) (Int8.toInt32 (Int32.toInt8 x82.toInt32.toInt8.toInt32))) (Int32.toNatClampNeg 1) (Int8.toInt32 (Int32.toInt8 x85.toInt32.toInt8.toInt32))) (Int32.toNatClampNeg 2) (Int8.toInt32 (Int32.toInt8 x88.toInt32.toInt8.toInt32)))) 85 (upd (upd (upd (upd (F 85) (Int32.toNatClampNeg 0) (Int8.toInt32 (Int32.toInt8 x82.toInt32.toInt8.toInt32))) (Int32.toNatClampNeg 1) (Int8.toInt32 (Int32.toInt8 x85.toInt32.toInt8.toInt32))) (Int32.toNatClampNeg 2) (Int8.toInt32 (Int32.toInt8 x88.toInt32.toInt8.toInt32))) (Int32.toNatClampNeg 3) (Int8.toInt32 (Int32.toInt8 x91.toInt32.toInt8.toInt32)))) 85 (upd (upd (upd (upd (upd (F 85) (Int32.toNatClampNeg 0) (Int8.toInt32 (Int32.toInt8 x82.toInt32.toInt8.toInt32))) (Int32.toNatClampNeg 1) (Int8.toInt32 (Int32.toInt8 x85.toInt32.toInt8.toInt32))) (Int32.toNatClampNeg 2) (Int8.toInt32 (Int32.toInt8 x88.toInt32.toInt8.toInt32))) (Int32.toNatClampNeg 3) (Int8.toInt32 (Int32.toInt8 x91.toInt32.toInt8.toInt32))) (Int32.toNatClampNeg 4) (Int8.toInt32 (Int32.toInt8 x94.toInt32.toInt8.toInt32)))) 85 (upd (upd (upd (upd (upd (upd (F 85) (Int32.toNatClampNeg 0) (Int8.toInt32 (Int32.toInt8 x82.toInt32.toInt8.toInt32))) (Int32.toNatClampNeg 1) (Int8.toInt32 (Int32.toInt8 x85.toInt32.toInt8.toInt32))) (Int32.toNatClampNeg 2) (Int8.toInt32 (Int32.toInt8 x88.toInt32.toInt8.toInt32))) (Int32.toNatClampNeg 3) (Int8.toInt32 (Int32.toInt8 x91.toInt32.toInt8.toInt32))) (Int32.toNatClampNeg 4) (Int8.toInt32 (Int32.toInt8 x94.toInt32.toInt8.toInt32))) (Int32.toNatClampNeg 5) (Int8.toInt32 (Int32.toInt8 x97.toInt32.toInt8.toInt32)))) G _ := hH
                refine lv_iinc (pc := 74) (v := 6) (lv' := [(4, .int 6), (3, .int 6), (0, .ref (b + 78)), (1, .long w)]) C0.1 C0.2.1 dX10_feed_74 hl (k := 0) rfl (by decide) (by decide) rfl (fun ls hl => ?_)
                refine lv_goto (pc := 77) (tgt := 47) C0.1 C0.2.1 dX10_feed_77 (by decide) ?_
                refine lv_iload (pc := 47) C0.1 C0.2.1 dX10_feed_47 (lv_at hl 0 rfl) ?_
                refine lv_iload_n (pc := 49) C0.1 C0.2.1 dX10_feed_49 rfl (lv_at hl 1 rfl) ?_
                refine lv_icmp_ge (pc := 50) (tgt := 80) C0.1 C0.2.1 dX10_feed_50 (by decide) (fun _ => ?_) (fun c => absurd (by decide) c)
                refine lv_aload_n (pc := 80) C0.1 C0.2.1 dX10_feed_80 rfl (lv_at hl 2 rfl) ?_
                refine lv_dup (pc := 81) C0.1 C0.2.1 dX10_feed_81 rfl ?_
                refine xget (pc := 82) C0 hH 78 12 clX10 ⟨Nat.le_of_ble_eq_true rfl, Nat.le_of_ble_eq_true rfl⟩ ⟨rfl, rfl⟩ (Nat.le_of_ble_eq_true rfl) fl_X10_219 (v := .int 0) (congrArg Value.int hi_78_12) dX10_feed_82 ?_
                refine lv_iload_n (pc := 85) C0.1 C0.2.1 dX10_feed_85 rfl (lv_at hl 1 rfl) ?_
                refine lv_iadd (pc := 86) C0.1 C0.2.1 dX10_feed_86 ?_
                refine lv_topi (fun q98 eq98 => ?_)
                obtain rfl : q98 = 6 := eq98.trans (by decide)
                refine xputI (pc := 87) C0 (Nat.le_of_ble_eq_true rfl) hH hS 78 12 clX10 ⟨Nat.le_of_ble_eq_true rfl, Nat.le_of_ble_eq_true rfl⟩ ⟨rfl, rfl⟩ ⟨Nat.le_of_ble_eq_true rfl, rfl, rfl⟩ fl_X10_219 (x := 6) ⟨rfl, rfl⟩ dX10_feed_87 (fun _ locs hH hS _ => ?_)
                have hH : Hd D tA b 78 52 zz (up2 i 78 12 6) (va_up (va_up (va_up (va_up (va_up (va_up F 85 (upd (F 85) (Int32.toNatClampNeg 0) (Int8.toInt32 (Int32.toInt8 x82.toInt32.toInt8.toInt32)))) 85 (upd (upd (F 85) (Int32.toNatClampNeg 0) (Int8.toInt32 (Int32.toInt8 x82.toInt32.toInt8.toInt32))) (Int32.toNatClampNeg 1) (Int8.toInt32 (Int32.toInt8 x85.toInt32.toInt8.toInt32)))) 85 (upd (upd (upd (F 85) (Int32.toNatClampNeg 0) (Int8.toInt32 (Int32.toInt8 x82.toInt32.toInt8.toInt32))) (Int32.toNatClampNeg 1) (Int8.toInt32 (Int32.toInt8 x85.toInt32.toInt8.toInt32))) (Int32.toNatClampNeg 2) (Int8.toInt32 (Int32.toInt8 x88.toInt32.toInt8.toInt32)))) 85 (upd (upd (upd (upd (F 85) (Int32.toNatClampNeg 0) (Int8.toInt32 (Int32.toInt8 x82.toInt32.toInt8.toInt32))) (Int32.toNatClampNeg 1) (Int8.toInt32 (Int32.toInt8 x85.toInt32.toInt8.toInt32))) (Int32.toNatClampNeg 2) (Int8.toInt32 (Int32.toInt8 x88.toInt32.toInt8.toInt32))) (Int32.toNatClampNeg 3) (Int8.toInt32 (Int32.toInt8 x91.toInt32.toInt8.toInt32)))) 85 (upd (upd (upd (upd (upd (F 85) (Int32.toNatClampNeg 0) (Int8.toInt32 (Int32.toInt8 x82.toInt32.toInt8.toInt32))) (Int32.toNatClampNeg 1) (Int8.toInt32 (Int32.toInt8 x85.toInt32.toInt8.toInt32))) (Int32.toNatClampNeg 2) (Int8.toInt32 (Int32.toInt8 x88.toInt32.toInt8.toInt32))) (Int32.toNatClampNeg 3) (Int8.toInt32 (Int32.toInt8 x91.toInt32.toInt8.toInt32))) (Int32.toNatClampNeg 4) (Int8.toInt32 (Int32.toInt8 x94.toInt32.toInt8.toInt32)))) 85 (upd (upd (upd (upd (upd (upd (F 85) (Int32.toNatClampNeg 0) (Int8.toInt32 (Int32.toInt8 x82.toInt32.toInt8.toInt32))) (Int32.toNatClampNeg 1) (Int8.toInt32 (Int32.toInt8 x85.toInt32.toInt8.toInt32))) (Int32.toNatClampNeg 2) (Int8.toInt32 (Int32.toInt8 x88.toInt32.toInt8.toInt32))) (Int32.toNatClampNeg 3) (Int8.toInt32 (Int32.toInt8 x91.toInt32.toInt8.toInt32))) (Int32.toNatClampNeg 4) (Int8.toInt32 (Int32.toInt8 x94.toInt32.toInt8.toInt32))) (Int32.toNatClampNeg 5) (Int8.toInt32 (Int32.toInt8 x97.toInt32.toInt8.toInt32)))) G _ := hH
                refine lv_aload_n (pc := 90) C0.1 C0.2.1 dX10_feed_90 rfl (lv_at hl 2 rfl) ?_
                refine lv_iconst (pc := 91) (v := 0) C0.1 C0.2.1 dX10_feed_91 (by decide) ?_
                refine xputI (pc := 92) C0 (Nat.le_of_ble_eq_true rfl) hH hS 78 15 clX10 ⟨Nat.le_of_ble_eq_true rfl, Nat.le_of_ble_eq_true rfl⟩ ⟨rfl, rfl⟩ ⟨Nat.le_of_ble_eq_true rfl, rfl, rfl⟩ fl_X10_211 (x := 0) ⟨rfl, rfl⟩ dX10_feed_92 (fun _ locs hH hS _ => ?_)
                have hH : Hd D tA b 78 52 zz (up2 (up2 i 78 12 6) 78 15 0) (va_up (va_up (va_up (va_up (va_up (va_up F 85 (upd (F 85) (Int32.toNatClampNeg 0) (Int8.toInt32 (Int32.toInt8 x82.toInt32.toInt8.toInt32)))) 85 (upd (upd (F 85) (Int32.toNatClampNeg 0) (Int8.toInt32 (Int32.toInt8 x82.toInt32.toInt8.toInt32))) (Int32.toNatClampNeg 1) (Int8.toInt32 (Int32.toInt8 x85.toInt32.toInt8.toInt32)))) 85 (upd (upd (upd (F 85) (Int32.toNatClampNeg 0) (Int8.toInt32 (Int32.toInt8 x82.toInt32.toInt8.toInt32))) (Int32.toNatClampNeg 1) (Int8.toInt32 (Int32.toInt8 x85.toInt32.toInt8.toInt32))) (Int32.toNatClampNeg 2) (Int8.toInt32 (Int32.toInt8 x88.toInt32.toInt8.toInt32)))) 85 (upd (upd (upd (upd (F 85) (Int32.toNatClampNeg 0) (Int8.toInt32 (Int32.toInt8 x82.toInt32.toInt8.toInt32))) (Int32.toNatClampNeg 1) (Int8.toInt32 (Int32.toInt8 x85.toInt32.toInt8.toInt32))) (Int32.toNatClampNeg 2) (Int8.toInt32 (Int32.toInt8 x88.toInt32.toInt8.toInt32))) (Int32.toNatClampNeg 3) (Int8.toInt32 (Int32.toInt8 x91.toInt32.toInt8.toInt32)))) 85 (upd (upd (upd (upd (upd (F 85) (Int32.toNatClampNeg 0) (Int8.toInt32 (Int32.toInt8 x82.toInt32.toInt8.toInt32))) (Int32.toNatClampNeg 1) (Int8.toInt32 (Int32.toInt8 x85.toInt32.toInt8.toInt32))) (Int32.toNatClampNeg 2) (Int8.toInt32 (Int32.toInt8 x88.toInt32.toInt8.toInt32))) (Int32.toNatClampNeg 3) (Int8.toInt32 (Int32.toInt8 x91.toInt32.toInt8.toInt32))) (Int32.toNatClampNeg 4) (Int8.toInt32 (Int32.toInt8 x94.toInt32.toInt8.toInt32)))) 85 (upd (upd (upd (upd (upd (upd (F 85) (Int32.toNatClampNeg 0) (Int8.toInt32 (Int32.toInt8 x82.toInt32.toInt8.toInt32))) (Int32.toNatClampNeg 1) (Int8.toInt32 (Int32.toInt8 x85.toInt32.toInt8.toInt32))) (Int32.toNatClampNeg 2) (Int8.toInt32 (Int32.toInt8 x88.toInt32.toInt8.toInt32))) (Int32.toNatClampNeg 3) (Int8.toInt32 (Int32.toInt8 x91.toInt32.toInt8.toInt32))) (Int32.toNatClampNeg 4) (Int8.toInt32 (Int32.toInt8 x94.toInt32.toInt8.toInt32))) (Int32.toNatClampNeg 5) (Int8.toInt32 (Int32.toInt8 x97.toInt32.toInt8.toInt32)))) G _ := hH
                refine lv_aload_n (pc := 95) C0.1 C0.2.1 dX10_feed_95 rfl (lv_at hl 2 rfl) ?_
                refine xget (pc := 96) C0 hH 78 12 clX10 ⟨Nat.le_of_ble_eq_true rfl, Nat.le_of_ble_eq_true rfl⟩ ⟨rfl, rfl⟩ (Nat.le_of_ble_eq_true rfl) fl_X10_219 (v := .int 6) rfl dX10_feed_96 ?_
                exact xiret (pc := 99) C0 hr hH hS dX10_feed_99 (by rw [show zl w = 6 from by unfold zl; simp only [z0, z1, z2, z3, z4, z5, z6, if_true, if_false]]; rfl)
              · have z6 : ¬ bt w 6 = 0 := fun q => z6 ((lg_cmp_eq _ _).mpr (by rw [q]; rfl))
                refine lv_iinc (pc := 23) (v := 7) (lv' := [(3, .int 7), (0, .ref (b + 78)), (1, .long w)]) C0.1 C0.2.1 dX10_feed_23 hl (k := 0) rfl (by decide) (by decide) rfl (fun ls hl => ?_)
                refine lv_goto (pc := 26) (tgt := 2) C0.1 C0.2.1 dX10_feed_26 (by decide) ?_
                refine lv_iload_n (pc := 2) C0.1 C0.2.1 dX10_feed_2 rfl (lv_at hl 0 rfl) ?_
                refine lv_bipush (pc := 3) (v := 8) C0.1 C0.2.1 dX10_feed_3 (by decide) ?_
                refine lv_icmp_ge (pc := 5) (tgt := 29) C0.1 C0.2.1 dX10_feed_5 (by decide) (fun c => absurd c (by decide)) (fun _ => ?_)
                refine lv_lload_n (pc := 8) C0.1 C0.2.1 dX10_feed_8 rfl (lv_at hl 2 rfl) ?_
                refine lv_bipush (pc := 9) (v := 8) C0.1 C0.2.1 dX10_feed_9 (by decide) ?_
                refine lv_iload_n (pc := 11) C0.1 C0.2.1 dX10_feed_11 rfl (lv_at hl 0 rfl) ?_
                refine lv_imul (pc := 12) C0.1 C0.2.1 dX10_feed_12 ?_
                refine lv_topi (fun q99 eq99 => ?_)
                obtain rfl : q99 = 56 := eq99.trans (by decide)
                obtain ⟨x100, ex100⟩ : ∃ y : Int64, y = (w.toUInt64 >>> ((56 : Int32).toInt64.toUInt64 &&& Int64.toUInt64 63)).toInt64 := ⟨_, rfl⟩
                refine lv_lushr (pc := 13) (v := x100) C0.1 C0.2.1 dX10_feed_13 (by rw [ex100]) ?_
                refine lv_ldc2 (pc := 14) C0.1 C0.2.1 C0.2.2.2.1 (C0.2.2.2.2.1 _ kl_X10_169) dX10_feed_14 ?_
                refine lv_land (pc := 17) C0.1 C0.2.1 dX10_feed_17 ?_
                refine lv_topl (fun q101 eq101 => ?_)
                obtain rfl : q101 = lN (bt w 7) := by rw [eq101]; rw [ex100, show (56 : Int32) = 8 * nI 7 from by decide]; exact bt_m w (by decide)
                refine lv_lconst (pc := 18) (v := 0) C0.1 C0.2.1 dX10_feed_18 (by decide) ?_
                refine W.lcmp (pc := 19) C0.1 C0.2.1 dX10_feed_19 ?_
                refine lv_if_eq (pc := 20) (tgt := 29) C0.1 C0.2.1 dX10_feed_20 (by decide) (fun z7 => ?_) (fun z7 => ?_)
                · have z7 := lN0 (bt_lb _ _) ((lg_cmp_eq _ _).mp z7)
                  refine lv_aload_n (pc := 29) C0.1 C0.2.1 dX10_feed_29 rfl (lv_at hl 1 rfl) ?_
                  refine xget (pc := 30) C0 hH 78 12 clX10 ⟨Nat.le_of_ble_eq_true rfl, Nat.le_of_ble_eq_true rfl⟩ ⟨rfl, rfl⟩ (Nat.le_of_ble_eq_true rfl) fl_X10_219 (v := .int 0) (congrArg Value.int hi_78_12) dX10_feed_30 ?_
                  refine lv_iload_n (pc := 33) C0.1 C0.2.1 dX10_feed_33 rfl (lv_at hl 0 rfl) ?_
                  refine lv_iadd (pc := 34) C0.1 C0.2.1 dX10_feed_34 ?_
                  refine lv_topi (fun q102 eq102 => ?_)
                  obtain rfl : q102 = 7 := eq102.trans (by decide)
                  refine lv_sipush (pc := 35) (v := 600) C0.1 C0.2.1 dX10_feed_35 (by decide) ?_
                  refine lv_icmp_le (pc := 38) (tgt := 44) C0.1 C0.2.1 dX10_feed_38 (by decide) (fun _ => ?_) (fun c => absurd (by decide) c)
                  refine lv_iconst (pc := 44) (v := 0) C0.1 C0.2.1 dX10_feed_44 (by decide) ?_
                  refine lv_istore (pc := 45) (lv' := [(4, .int 0), (3, .int 7), (0, .ref (b + 78)), (1, .long w)]) C0.1 C0.2.1 dX10_feed_45 hl (by decide) rfl (fun ls hl => ?_)
                  refine lv_iload (pc := 47) C0.1 C0.2.1 dX10_feed_47 (lv_at hl 0 rfl) ?_
                  refine lv_iload_n (pc := 49) C0.1 C0.2.1 dX10_feed_49 rfl (lv_at hl 1 rfl) ?_
                  refine lv_icmp_ge (pc := 50) (tgt := 80) C0.1 C0.2.1 dX10_feed_50 (by decide) (fun c => absurd c (by decide)) (fun _ => ?_)
                  refine lv_aload_n (pc := 53) C0.1 C0.2.1 dX10_feed_53 rfl (lv_at hl 2 rfl) ?_
                  refine xget (pc := 54) C0 hH 78 11 clX10 ⟨Nat.le_of_ble_eq_true rfl, Nat.le_of_ble_eq_true rfl⟩ ⟨rfl, rfl⟩ (Nat.le_of_ble_eq_true rfl) fl_X10_29 (v := .ref (b + 85)) rfl dX10_feed_54 ?_
                  refine lv_aload_n (pc := 57) C0.1 C0.2.1 dX10_feed_57 rfl (lv_at hl 2 rfl) ?_
                  refine xget (pc := 58) C0 hH 78 12 clX10 ⟨Nat.le_of_ble_eq_true rfl, Nat.le_of_ble_eq_true rfl⟩ ⟨rfl, rfl⟩ (Nat.le_of_ble_eq_true rfl) fl_X10_219 (v := .int 0) (congrArg Value.int hi_78_12) dX10_feed_58 ?_
                  refine lv_iload (pc := 61) C0.1 C0.2.1 dX10_feed_61 (lv_at hl 0 rfl) ?_
                  refine lv_iadd (pc := 63) C0.1 C0.2.1 dX10_feed_63 ?_
                  refine lv_topi (fun q103 eq103 => ?_)
                  obtain rfl : q103 = 0 := eq103.trans (by decide)
                  refine lv_lload_n (pc := 64) C0.1 C0.2.1 dX10_feed_64 rfl (lv_at hl 3 rfl) ?_
                  refine lv_bipush (pc := 65) (v := 8) C0.1 C0.2.1 dX10_feed_65 (by decide) ?_
                  refine lv_iload (pc := 67) C0.1 C0.2.1 dX10_feed_67 (lv_at hl 0 rfl) ?_
                  refine lv_imul (pc := 69) C0.1 C0.2.1 dX10_feed_69 ?_
                  refine lv_topi (fun q104 eq104 => ?_)
                  obtain rfl : q104 = 0 := eq104.trans (by decide)
                  obtain ⟨x105, ex105⟩ : ∃ y : Int64, y = (w.toUInt64 >>> ((0 : Int32).toInt64.toUInt64 &&& Int64.toUInt64 63)).toInt64 := ⟨_, rfl⟩
                  refine lv_lushr (pc := 70) (v := x105) C0.1 C0.2.1 dX10_feed_70 (by rw [ex105]) ?_
                  refine lv_l2i (pc := 71) (v := x105.toInt32) C0.1 C0.2.1 dX10_feed_71 rfl ?_
                  refine lv_i2b (pc := 72) (v := x105.toInt32.toInt8.toInt32) C0.1 C0.2.1 dX10_feed_72 rfl ?_
                  refine xbast (pc := 73) (N := 600) C0 (Nat.le_of_ble_eq_true rfl) hH hS 85 ⟨Nat.le_of_ble_eq_true rfl, Nat.le_of_ble_eq_true rfl⟩ ⟨rfl, rfl⟩ (vin (by decide)) dX10_feed_73 (fun _ locs hH hS => ?_)
                  have hH : Hd D tA b 78 52 zz i (va_up F 85 (upd (F 85) (Int32.toNatClampNeg 0) (Int8.toInt32 (Int32.toInt8 x105.toInt32.toInt8.toInt32)))) G _ := hH
                  refine lv_iinc (pc := 74) (v := 1) (lv' := [(4, .int 1), (3, .int 7), (0, .ref (b + 78)), (1, .long w)]) C0.1 C0.2.1 dX10_feed_74 hl (k := 0) rfl (by decide) (by decide) rfl (fun ls hl => ?_)
                  refine lv_goto (pc := 77) (tgt := 47) C0.1 C0.2.1 dX10_feed_77 (by decide) ?_
                  refine lv_iload (pc := 47) C0.1 C0.2.1 dX10_feed_47 (lv_at hl 0 rfl) ?_
                  refine lv_iload_n (pc := 49) C0.1 C0.2.1 dX10_feed_49 rfl (lv_at hl 1 rfl) ?_
                  refine lv_icmp_ge (pc := 50) (tgt := 80) C0.1 C0.2.1 dX10_feed_50 (by decide) (fun c => absurd c (by decide)) (fun _ => ?_)
                  refine lv_aload_n (pc := 53) C0.1 C0.2.1 dX10_feed_53 rfl (lv_at hl 2 rfl) ?_
                  refine xget (pc := 54) C0 hH 78 11 clX10 ⟨Nat.le_of_ble_eq_true rfl, Nat.le_of_ble_eq_true rfl⟩ ⟨rfl, rfl⟩ (Nat.le_of_ble_eq_true rfl) fl_X10_29 (v := .ref (b + 85)) rfl dX10_feed_54 ?_
                  refine lv_aload_n (pc := 57) C0.1 C0.2.1 dX10_feed_57 rfl (lv_at hl 2 rfl) ?_
                  refine xget (pc := 58) C0 hH 78 12 clX10 ⟨Nat.le_of_ble_eq_true rfl, Nat.le_of_ble_eq_true rfl⟩ ⟨rfl, rfl⟩ (Nat.le_of_ble_eq_true rfl) fl_X10_219 (v := .int 0) (congrArg Value.int hi_78_12) dX10_feed_58 ?_
                  refine lv_iload (pc := 61) C0.1 C0.2.1 dX10_feed_61 (lv_at hl 0 rfl) ?_
                  refine lv_iadd (pc := 63) C0.1 C0.2.1 dX10_feed_63 ?_
                  refine lv_topi (fun q106 eq106 => ?_)
                  obtain rfl : q106 = 1 := eq106.trans (by decide)
                  refine lv_lload_n (pc := 64) C0.1 C0.2.1 dX10_feed_64 rfl (lv_at hl 3 rfl) ?_
                  refine lv_bipush (pc := 65) (v := 8) C0.1 C0.2.1 dX10_feed_65 (by decide) ?_
                  refine lv_iload (pc := 67) C0.1 C0.2.1 dX10_feed_67 (lv_at hl 0 rfl) ?_
                  refine lv_imul (pc := 69) C0.1 C0.2.1 dX10_feed_69 ?_
                  refine lv_topi (fun q107 eq107 => ?_)
                  obtain rfl : q107 = 8 := eq107.trans (by decide)
                  obtain ⟨x108, ex108⟩ : ∃ y : Int64, y = (w.toUInt64 >>> ((8 : Int32).toInt64.toUInt64 &&& Int64.toUInt64 63)).toInt64 := ⟨_, rfl⟩
                  refine lv_lushr (pc := 70) (v := x108) C0.1 C0.2.1 dX10_feed_70 (by rw [ex108]) ?_
                  refine lv_l2i (pc := 71) (v := x108.toInt32) C0.1 C0.2.1 dX10_feed_71 rfl ?_
                  refine lv_i2b (pc := 72) (v := x108.toInt32.toInt8.toInt32) C0.1 C0.2.1 dX10_feed_72 rfl ?_
                  refine xbast (pc := 73) (N := 600) C0 (Nat.le_of_ble_eq_true rfl) hH hS 85 ⟨Nat.le_of_ble_eq_true rfl, Nat.le_of_ble_eq_true rfl⟩ ⟨rfl, rfl⟩ (vin (by decide)) dX10_feed_73 (fun _ locs hH hS => ?_)
                  have hH : Hd D tA b 78 52 zz i (va_up (va_up F 85 (upd (F 85) (Int32.toNatClampNeg 0) (Int8.toInt32 (Int32.toInt8 x105.toInt32.toInt8.toInt32)))) 85 (upd (upd (F 85) (Int32.toNatClampNeg 0) (Int8.toInt32 (Int32.toInt8 x105.toInt32.toInt8.toInt32))) (Int32.toNatClampNeg 1) (Int8.toInt32 (Int32.toInt8 x108.toInt32.toInt8.toInt32)))) G _ := hH
                  refine lv_iinc (pc := 74) (v := 2) (lv' := [(4, .int 2), (3, .int 7), (0, .ref (b + 78)), (1, .long w)]) C0.1 C0.2.1 dX10_feed_74 hl (k := 0) rfl (by decide) (by decide) rfl (fun ls hl => ?_)
                  refine lv_goto (pc := 77) (tgt := 47) C0.1 C0.2.1 dX10_feed_77 (by decide) ?_
                  refine lv_iload (pc := 47) C0.1 C0.2.1 dX10_feed_47 (lv_at hl 0 rfl) ?_
                  refine lv_iload_n (pc := 49) C0.1 C0.2.1 dX10_feed_49 rfl (lv_at hl 1 rfl) ?_
                  refine lv_icmp_ge (pc := 50) (tgt := 80) C0.1 C0.2.1 dX10_feed_50 (by decide) (fun c => absurd c (by decide)) (fun _ => ?_)
                  refine lv_aload_n (pc := 53) C0.1 C0.2.1 dX10_feed_53 rfl (lv_at hl 2 rfl) ?_
                  refine xget (pc := 54) C0 hH 78 11 clX10 ⟨Nat.le_of_ble_eq_true rfl, Nat.le_of_ble_eq_true rfl⟩ ⟨rfl, rfl⟩ (Nat.le_of_ble_eq_true rfl) fl_X10_29 (v := .ref (b + 85)) rfl dX10_feed_54 ?_
                  refine lv_aload_n (pc := 57) C0.1 C0.2.1 dX10_feed_57 rfl (lv_at hl 2 rfl) ?_
                  refine xget (pc := 58) C0 hH 78 12 clX10 ⟨Nat.le_of_ble_eq_true rfl, Nat.le_of_ble_eq_true rfl⟩ ⟨rfl, rfl⟩ (Nat.le_of_ble_eq_true rfl) fl_X10_219 (v := .int 0) (congrArg Value.int hi_78_12) dX10_feed_58 ?_
                  refine lv_iload (pc := 61) C0.1 C0.2.1 dX10_feed_61 (lv_at hl 0 rfl) ?_
                  refine lv_iadd (pc := 63) C0.1 C0.2.1 dX10_feed_63 ?_
                  refine lv_topi (fun q109 eq109 => ?_)
                  obtain rfl : q109 = 2 := eq109.trans (by decide)
                  refine lv_lload_n (pc := 64) C0.1 C0.2.1 dX10_feed_64 rfl (lv_at hl 3 rfl) ?_
                  refine lv_bipush (pc := 65) (v := 8) C0.1 C0.2.1 dX10_feed_65 (by decide) ?_
                  refine lv_iload (pc := 67) C0.1 C0.2.1 dX10_feed_67 (lv_at hl 0 rfl) ?_
                  refine lv_imul (pc := 69) C0.1 C0.2.1 dX10_feed_69 ?_
                  refine lv_topi (fun q110 eq110 => ?_)
                  obtain rfl : q110 = 16 := eq110.trans (by decide)
                  obtain ⟨x111, ex111⟩ : ∃ y : Int64, y = (w.toUInt64 >>> ((16 : Int32).toInt64.toUInt64 &&& Int64.toUInt64 63)).toInt64 := ⟨_, rfl⟩
                  refine lv_lushr (pc := 70) (v := x111) C0.1 C0.2.1 dX10_feed_70 (by rw [ex111]) ?_
                  refine lv_l2i (pc := 71) (v := x111.toInt32) C0.1 C0.2.1 dX10_feed_71 rfl ?_
                  refine lv_i2b (pc := 72) (v := x111.toInt32.toInt8.toInt32) C0.1 C0.2.1 dX10_feed_72 rfl ?_
                  refine xbast (pc := 73) (N := 600) C0 (Nat.le_of_ble_eq_true rfl) hH hS 85 ⟨Nat.le_of_ble_eq_true rfl, Nat.le_of_ble_eq_true rfl⟩ ⟨rfl, rfl⟩ (vin (by decide)) dX10_feed_73 (fun _ locs hH hS => ?_)
                  have hH : Hd D tA b 78 52 zz i (va_up (va_up (va_up F 85 (upd (F 85) (Int32.toNatClampNeg 0) (Int8.toInt32 (Int32.toInt8 x105.toInt32.toInt8.toInt32)))) 85 (upd (upd (F 85) (Int32.toNatClampNeg 0) (Int8.toInt32 (Int32.toInt8 x105.toInt32.toInt8.toInt32))) (Int32.toNatClampNeg 1) (Int8.toInt32 (Int32.toInt8 x108.toInt32.toInt8.toInt32)))) 85 (upd (upd (upd (F 85) (Int32.toNatClampNeg 0) (Int8.toInt32 (Int32.toInt8 x105.toInt32.toInt8.toInt32))) (Int32.toNatClampNeg 1) (Int8.toInt32 (Int32.toInt8 x108.toInt32.toInt8.toInt32))) (Int32.toNatClampNeg 2) (Int8.toInt32 (Int32.toInt8 x111.toInt32.toInt8.toInt32)))) G _ := hH
                  refine lv_iinc (pc := 74) (v := 3) (lv' := [(4, .int 3), (3, .int 7), (0, .ref (b + 78)), (1, .long w)]) C0.1 C0.2.1 dX10_feed_74 hl (k := 0) rfl (by decide) (by decide) rfl (fun ls hl => ?_)
                  refine lv_goto (pc := 77) (tgt := 47) C0.1 C0.2.1 dX10_feed_77 (by decide) ?_
                  refine lv_iload (pc := 47) C0.1 C0.2.1 dX10_feed_47 (lv_at hl 0 rfl) ?_
                  refine lv_iload_n (pc := 49) C0.1 C0.2.1 dX10_feed_49 rfl (lv_at hl 1 rfl) ?_
                  refine lv_icmp_ge (pc := 50) (tgt := 80) C0.1 C0.2.1 dX10_feed_50 (by decide) (fun c => absurd c (by decide)) (fun _ => ?_)
                  refine lv_aload_n (pc := 53) C0.1 C0.2.1 dX10_feed_53 rfl (lv_at hl 2 rfl) ?_
                  refine xget (pc := 54) C0 hH 78 11 clX10 ⟨Nat.le_of_ble_eq_true rfl, Nat.le_of_ble_eq_true rfl⟩ ⟨rfl, rfl⟩ (Nat.le_of_ble_eq_true rfl) fl_X10_29 (v := .ref (b + 85)) rfl dX10_feed_54 ?_
                  refine lv_aload_n (pc := 57) C0.1 C0.2.1 dX10_feed_57 rfl (lv_at hl 2 rfl) ?_
                  refine xget (pc := 58) C0 hH 78 12 clX10 ⟨Nat.le_of_ble_eq_true rfl, Nat.le_of_ble_eq_true rfl⟩ ⟨rfl, rfl⟩ (Nat.le_of_ble_eq_true rfl) fl_X10_219 (v := .int 0) (congrArg Value.int hi_78_12) dX10_feed_58 ?_
                  refine lv_iload (pc := 61) C0.1 C0.2.1 dX10_feed_61 (lv_at hl 0 rfl) ?_
                  refine lv_iadd (pc := 63) C0.1 C0.2.1 dX10_feed_63 ?_
                  refine lv_topi (fun q112 eq112 => ?_)
                  obtain rfl : q112 = 3 := eq112.trans (by decide)
                  refine lv_lload_n (pc := 64) C0.1 C0.2.1 dX10_feed_64 rfl (lv_at hl 3 rfl) ?_
                  refine lv_bipush (pc := 65) (v := 8) C0.1 C0.2.1 dX10_feed_65 (by decide) ?_
                  refine lv_iload (pc := 67) C0.1 C0.2.1 dX10_feed_67 (lv_at hl 0 rfl) ?_
                  refine lv_imul (pc := 69) C0.1 C0.2.1 dX10_feed_69 ?_
                  refine lv_topi (fun q113 eq113 => ?_)
                  obtain rfl : q113 = 24 := eq113.trans (by decide)
                  obtain ⟨x114, ex114⟩ : ∃ y : Int64, y = (w.toUInt64 >>> ((24 : Int32).toInt64.toUInt64 &&& Int64.toUInt64 63)).toInt64 := ⟨_, rfl⟩
                  refine lv_lushr (pc := 70) (v := x114) C0.1 C0.2.1 dX10_feed_70 (by rw [ex114]) ?_
                  refine lv_l2i (pc := 71) (v := x114.toInt32) C0.1 C0.2.1 dX10_feed_71 rfl ?_
                  refine lv_i2b (pc := 72) (v := x114.toInt32.toInt8.toInt32) C0.1 C0.2.1 dX10_feed_72 rfl ?_
                  refine xbast (pc := 73) (N := 600) C0 (Nat.le_of_ble_eq_true rfl) hH hS 85 ⟨Nat.le_of_ble_eq_true rfl, Nat.le_of_ble_eq_true rfl⟩ ⟨rfl, rfl⟩ (vin (by decide)) dX10_feed_73 (fun _ locs hH hS => ?_)
                  have hH : Hd D tA b 78 52 zz i (va_up (va_up (va_up (va_up F 85 (upd (F 85) (Int32.toNatClampNeg 0) (Int8.toInt32 (Int32.toInt8 x105.toInt32.toInt8.toInt32)))) 85 (upd (upd (F 85) (Int32.toNatClampNeg 0) (Int8.toInt32 (Int32.toInt8 x105.toInt32.toInt8.toInt32))) (Int32.toNatClampNeg 1) (Int8.toInt32 (Int32.toInt8 x108.toInt32.toInt8.toInt32)))) 85 (upd (upd (upd (F 85) (Int32.toNatClampNeg 0) (Int8.toInt32 (Int32.toInt8 x105.toInt32.toInt8.toInt32))) (Int32.toNatClampNeg 1) (Int8.toInt32 (Int32.toInt8 x108.toInt32.toInt8.toInt32))) (Int32.toNatClampNeg 2) (Int8.toInt32 (Int32.toInt8 x111.toInt32.toInt8.toInt32)))) 85 (upd (upd (upd (upd (F 85) (Int32.toNatClampNeg 0) (Int8.toInt32 (Int32.toInt8 x105.toInt32.toInt8.toInt32))) (Int32.toNatClampNeg 1) (Int8.toInt32 (Int32.toInt8 x108.toInt32.toInt8.toInt32))) (Int32.toNatClampNeg 2) (Int8.toInt32 (Int32.toInt8 x111.toInt32.toInt8.toInt32))) (Int32.toNatClampNeg 3) (Int8.toInt32 (Int32.toInt8 x114.toInt32.toInt8.toInt32)))) G _ := hH
                  refine lv_iinc (pc := 74) (v := 4) (lv' := [(4, .int 4), (3, .int 7), (0, .ref (b + 78)), (1, .long w)]) C0.1 C0.2.1 dX10_feed_74 hl (k := 0) rfl (by decide) (by decide) rfl (fun ls hl => ?_)
                  refine lv_goto (pc := 77) (tgt := 47) C0.1 C0.2.1 dX10_feed_77 (by decide) ?_
                  refine lv_iload (pc := 47) C0.1 C0.2.1 dX10_feed_47 (lv_at hl 0 rfl) ?_
                  refine lv_iload_n (pc := 49) C0.1 C0.2.1 dX10_feed_49 rfl (lv_at hl 1 rfl) ?_
                  refine lv_icmp_ge (pc := 50) (tgt := 80) C0.1 C0.2.1 dX10_feed_50 (by decide) (fun c => absurd c (by decide)) (fun _ => ?_)
                  refine lv_aload_n (pc := 53) C0.1 C0.2.1 dX10_feed_53 rfl (lv_at hl 2 rfl) ?_
                  refine xget (pc := 54) C0 hH 78 11 clX10 ⟨Nat.le_of_ble_eq_true rfl, Nat.le_of_ble_eq_true rfl⟩ ⟨rfl, rfl⟩ (Nat.le_of_ble_eq_true rfl) fl_X10_29 (v := .ref (b + 85)) rfl dX10_feed_54 ?_
                  refine lv_aload_n (pc := 57) C0.1 C0.2.1 dX10_feed_57 rfl (lv_at hl 2 rfl) ?_
                  refine xget (pc := 58) C0 hH 78 12 clX10 ⟨Nat.le_of_ble_eq_true rfl, Nat.le_of_ble_eq_true rfl⟩ ⟨rfl, rfl⟩ (Nat.le_of_ble_eq_true rfl) fl_X10_219 (v := .int 0) (congrArg Value.int hi_78_12) dX10_feed_58 ?_
                  refine lv_iload (pc := 61) C0.1 C0.2.1 dX10_feed_61 (lv_at hl 0 rfl) ?_
                  refine lv_iadd (pc := 63) C0.1 C0.2.1 dX10_feed_63 ?_
                  refine lv_topi (fun q115 eq115 => ?_)
                  obtain rfl : q115 = 4 := eq115.trans (by decide)
                  refine lv_lload_n (pc := 64) C0.1 C0.2.1 dX10_feed_64 rfl (lv_at hl 3 rfl) ?_
                  refine lv_bipush (pc := 65) (v := 8) C0.1 C0.2.1 dX10_feed_65 (by decide) ?_
                  refine lv_iload (pc := 67) C0.1 C0.2.1 dX10_feed_67 (lv_at hl 0 rfl) ?_
                  refine lv_imul (pc := 69) C0.1 C0.2.1 dX10_feed_69 ?_
                  refine lv_topi (fun q116 eq116 => ?_)
                  obtain rfl : q116 = 32 := eq116.trans (by decide)
                  obtain ⟨x117, ex117⟩ : ∃ y : Int64, y = (w.toUInt64 >>> ((32 : Int32).toInt64.toUInt64 &&& Int64.toUInt64 63)).toInt64 := ⟨_, rfl⟩
                  refine lv_lushr (pc := 70) (v := x117) C0.1 C0.2.1 dX10_feed_70 (by rw [ex117]) ?_
                  refine lv_l2i (pc := 71) (v := x117.toInt32) C0.1 C0.2.1 dX10_feed_71 rfl ?_
                  refine lv_i2b (pc := 72) (v := x117.toInt32.toInt8.toInt32) C0.1 C0.2.1 dX10_feed_72 rfl ?_
                  refine xbast (pc := 73) (N := 600) C0 (Nat.le_of_ble_eq_true rfl) hH hS 85 ⟨Nat.le_of_ble_eq_true rfl, Nat.le_of_ble_eq_true rfl⟩ ⟨rfl, rfl⟩ (vin (by decide)) dX10_feed_73 (fun _ locs hH hS => ?_)
                  have hH : Hd D tA b 78 52 zz i (va_up (va_up (va_up (va_up (va_up F 85 (upd (F 85) (Int32.toNatClampNeg 0) (Int8.toInt32 (Int32.toInt8 x105.toInt32.toInt8.toInt32)))) 85 (upd (upd (F 85) (Int32.toNatClampNeg 0) (Int8.toInt32 (Int32.toInt8 x105.toInt32.toInt8.toInt32))) (Int32.toNatClampNeg 1) (Int8.toInt32 (Int32.toInt8 x108.toInt32.toInt8.toInt32)))) 85 (upd (upd (upd (F 85) (Int32.toNatClampNeg 0) (Int8.toInt32 (Int32.toInt8 x105.toInt32.toInt8.toInt32))) (Int32.toNatClampNeg 1) (Int8.toInt32 (Int32.toInt8 x108.toInt32.toInt8.toInt32))) (Int32.toNatClampNeg 2) (Int8.toInt32 (Int32.toInt8 x111.toInt32.toInt8.toInt32)))) 85 (upd (upd (upd (upd (F 85) (Int32.toNatClampNeg 0) (Int8.toInt32 (Int32.toInt8 x105.toInt32.toInt8.toInt32))) (Int32.toNatClampNeg 1) (Int8.toInt32 (Int32.toInt8 x108.toInt32.toInt8.toInt32))) (Int32.toNatClampNeg 2) (Int8.toInt32 (Int32.toInt8 x111.toInt32.toInt8.toInt32))) (Int32.toNatClampNeg 3) (Int8.toInt32 (Int32.toInt8 x114.toInt32.toInt8.toInt32)))) 85 (upd (upd (upd (upd (upd (F 85) (Int32.toNatClampNeg 0) (Int8.toInt32 (Int32.toInt8 x105.toInt32.toInt8.toInt32))) (Int32.toNatClampNeg 1) (Int8.toInt32 (Int32.toInt8 x108.toInt32.toInt8.toInt32))) (Int32.toNatClampNeg 2) (Int8.toInt32 (Int32.toInt8 x111.toInt32.toInt8.toInt32))) (Int32.toNatClampNeg 3) (Int8.toInt32 (Int32.toInt8 x114.toInt32.toInt8.toInt32))) (Int32.toNatClampNeg 4) (Int8.toInt32 (Int32.toInt8 x117.toInt32.toInt8.toInt32)))) G _ := hH
                  refine lv_iinc (pc := 74) (v := 5) (lv' := [(4, .int 5), (3, .int 7), (0, .ref (b + 78)), (1, .long w)]) C0.1 C0.2.1 dX10_feed_74 hl (k := 0) rfl (by decide) (by decide) rfl (fun ls hl => ?_)
                  refine lv_goto (pc := 77) (tgt := 47) C0.1 C0.2.1 dX10_feed_77 (by decide) ?_
                  refine lv_iload (pc := 47) C0.1 C0.2.1 dX10_feed_47 (lv_at hl 0 rfl) ?_
                  refine lv_iload_n (pc := 49) C0.1 C0.2.1 dX10_feed_49 rfl (lv_at hl 1 rfl) ?_
                  refine lv_icmp_ge (pc := 50) (tgt := 80) C0.1 C0.2.1 dX10_feed_50 (by decide) (fun c => absurd c (by decide)) (fun _ => ?_)
                  refine lv_aload_n (pc := 53) C0.1 C0.2.1 dX10_feed_53 rfl (lv_at hl 2 rfl) ?_
                  refine xget (pc := 54) C0 hH 78 11 clX10 ⟨Nat.le_of_ble_eq_true rfl, Nat.le_of_ble_eq_true rfl⟩ ⟨rfl, rfl⟩ (Nat.le_of_ble_eq_true rfl) fl_X10_29 (v := .ref (b + 85)) rfl dX10_feed_54 ?_
                  refine lv_aload_n (pc := 57) C0.1 C0.2.1 dX10_feed_57 rfl (lv_at hl 2 rfl) ?_
                  refine xget (pc := 58) C0 hH 78 12 clX10 ⟨Nat.le_of_ble_eq_true rfl, Nat.le_of_ble_eq_true rfl⟩ ⟨rfl, rfl⟩ (Nat.le_of_ble_eq_true rfl) fl_X10_219 (v := .int 0) (congrArg Value.int hi_78_12) dX10_feed_58 ?_
                  refine lv_iload (pc := 61) C0.1 C0.2.1 dX10_feed_61 (lv_at hl 0 rfl) ?_
                  refine lv_iadd (pc := 63) C0.1 C0.2.1 dX10_feed_63 ?_
                  refine lv_topi (fun q118 eq118 => ?_)
                  obtain rfl : q118 = 5 := eq118.trans (by decide)
                  refine lv_lload_n (pc := 64) C0.1 C0.2.1 dX10_feed_64 rfl (lv_at hl 3 rfl) ?_
                  refine lv_bipush (pc := 65) (v := 8) C0.1 C0.2.1 dX10_feed_65 (by decide) ?_
                  refine lv_iload (pc := 67) C0.1 C0.2.1 dX10_feed_67 (lv_at hl 0 rfl) ?_
                  refine lv_imul (pc := 69) C0.1 C0.2.1 dX10_feed_69 ?_
                  refine lv_topi (fun q119 eq119 => ?_)
                  obtain rfl : q119 = 40 := eq119.trans (by decide)
                  obtain ⟨x120, ex120⟩ : ∃ y : Int64, y = (w.toUInt64 >>> ((40 : Int32).toInt64.toUInt64 &&& Int64.toUInt64 63)).toInt64 := ⟨_, rfl⟩
                  refine lv_lushr (pc := 70) (v := x120) C0.1 C0.2.1 dX10_feed_70 (by rw [ex120]) ?_
                  refine lv_l2i (pc := 71) (v := x120.toInt32) C0.1 C0.2.1 dX10_feed_71 rfl ?_
                  refine lv_i2b (pc := 72) (v := x120.toInt32.toInt8.toInt32) C0.1 C0.2.1 dX10_feed_72 rfl ?_
                  refine xbast (pc := 73) (N := 600) C0 (Nat.le_of_ble_eq_true rfl) hH hS 85 ⟨Nat.le_of_ble_eq_true rfl, Nat.le_of_ble_eq_true rfl⟩ ⟨rfl, rfl⟩ (vin (by decide)) dX10_feed_73 (fun _ locs hH hS => ?_)
                  have hH : Hd D tA b 78 52 zz i (va_up (va_up (va_up (va_up (va_up (va_up F 85 (upd (F 85) (Int32.toNatClampNeg 0) (Int8.toInt32 (Int32.toInt8 x105.toInt32.toInt8.toInt32)))) 85 (upd (upd (F 85) (Int32.toNatClampNeg 0) (Int8.toInt32 (Int32.toInt8 x105.toInt32.toInt8.toInt32))) (Int32.toNatClampNeg 1) (Int8.toInt32 (Int32.toInt8 x108.toInt32.toInt8.toInt32)))) 85 (upd (upd (upd (F 85) (Int32.toNatClampNeg 0) (Int8.toInt32 (Int32.toInt8 x105.toInt32.toInt8.toInt32))) (Int32.toNatClampNeg 1) (Int8.toInt32 (Int32.toInt8 x108.toInt32.toInt8.toInt32))) (Int32.toNatClampNeg 2) (Int8.toInt32 (Int32.toInt8 x111.toInt32.toInt8.toInt32)))) 85 (upd (upd (upd (upd (F 85) (Int32.toNatClampNeg 0) (Int8.toInt32 (Int32.toInt8 x105.toInt32.toInt8.toInt32))) (Int32.toNatClampNeg 1) (Int8.toInt32 (Int32.toInt8 x108.toInt32.toInt8.toInt32))) (Int32.toNatClampNeg 2) (Int8.toInt32 (Int32.toInt8 x111.toInt32.toInt8.toInt32))) (Int32.toNatClampNeg 3) (Int8.toInt32 (Int32.toInt8 x114.toInt32.toInt8.toInt32)))) 85 (upd (upd (upd (upd (upd (F 85) (Int32.toNatClampNeg 0) (Int8.toInt32 (Int32.toInt8 x105.toInt32.toInt8.toInt32))) (Int32.toNatClampNeg 1) (Int8.toInt32 (Int32.toInt8 x108.toInt32.toInt8.toInt32))) (Int32.toNatClampNeg 2) (Int8.toInt32 (Int32.toInt8 x111.toInt32.toInt8.toInt32))) (Int32.toNatClampNeg 3) (Int8.toInt32 (Int32.toInt8 x114.toInt32.toInt8.toInt32))) (Int32.toNatClampNeg 4) (Int8.toInt32 (Int32.toInt8 x117.toInt32.toInt8.toInt32)))) 85 (upd (upd (upd (upd (upd (upd (F 85) (Int32.toNatClampNeg 0) (Int8.toInt32 (Int32.toInt8 x105.toInt32.toInt8.toInt32))) (Int32.toNatClampNeg 1) (Int8.toInt32 (Int32.toInt8 x108.toInt32.toInt8.toInt32))) (Int32.toNatClampNeg 2) (Int8.toInt32 (Int32.toInt8 x111.toInt32.toInt8.toInt32))) (Int32.toNatClampNeg 3) (Int8.toInt32 (Int32.toInt8 x114.toInt32.toInt8.toInt32))) (Int32.toNatClampNeg 4) (Int8.toInt32 (Int32.toInt8 x117.toInt32.toInt8.toInt32))) (Int32.toNatClampNeg 5) (Int8.toInt32 (Int32.toInt8 x120.toInt32.toInt8.toInt32)))) G _ := hH
                  refine lv_iinc (pc := 74) (v := 6) (lv' := [(4, .int 6), (3, .int 7), (0, .ref (b + 78)), (1, .long w)]) C0.1 C0.2.1 dX10_feed_74 hl (k := 0) rfl (by decide) (by decide) rfl (fun ls hl => ?_)
                  refine lv_goto (pc := 77) (tgt := 47) C0.1 C0.2.1 dX10_feed_77 (by decide) ?_
                  refine lv_iload (pc := 47) C0.1 C0.2.1 dX10_feed_47 (lv_at hl 0 rfl) ?_
                  refine lv_iload_n (pc := 49) C0.1 C0.2.1 dX10_feed_49 rfl (lv_at hl 1 rfl) ?_
                  refine lv_icmp_ge (pc := 50) (tgt := 80) C0.1 C0.2.1 dX10_feed_50 (by decide) (fun c => absurd c (by decide)) (fun _ => ?_)
                  refine lv_aload_n (pc := 53) C0.1 C0.2.1 dX10_feed_53 rfl (lv_at hl 2 rfl) ?_
                  refine xget (pc := 54) C0 hH 78 11 clX10 ⟨Nat.le_of_ble_eq_true rfl, Nat.le_of_ble_eq_true rfl⟩ ⟨rfl, rfl⟩ (Nat.le_of_ble_eq_true rfl) fl_X10_29 (v := .ref (b + 85)) rfl dX10_feed_54 ?_
                  refine lv_aload_n (pc := 57) C0.1 C0.2.1 dX10_feed_57 rfl (lv_at hl 2 rfl) ?_
                  refine xget (pc := 58) C0 hH 78 12 clX10 ⟨Nat.le_of_ble_eq_true rfl, Nat.le_of_ble_eq_true rfl⟩ ⟨rfl, rfl⟩ (Nat.le_of_ble_eq_true rfl) fl_X10_219 (v := .int 0) (congrArg Value.int hi_78_12) dX10_feed_58 ?_
                  refine lv_iload (pc := 61) C0.1 C0.2.1 dX10_feed_61 (lv_at hl 0 rfl) ?_
                  refine lv_iadd (pc := 63) C0.1 C0.2.1 dX10_feed_63 ?_
                  refine lv_topi (fun q121 eq121 => ?_)
                  obtain rfl : q121 = 6 := eq121.trans (by decide)
                  refine lv_lload_n (pc := 64) C0.1 C0.2.1 dX10_feed_64 rfl (lv_at hl 3 rfl) ?_
                  refine lv_bipush (pc := 65) (v := 8) C0.1 C0.2.1 dX10_feed_65 (by decide) ?_
                  refine lv_iload (pc := 67) C0.1 C0.2.1 dX10_feed_67 (lv_at hl 0 rfl) ?_
                  refine lv_imul (pc := 69) C0.1 C0.2.1 dX10_feed_69 ?_
                  refine lv_topi (fun q122 eq122 => ?_)
                  obtain rfl : q122 = 48 := eq122.trans (by decide)
                  obtain ⟨x123, ex123⟩ : ∃ y : Int64, y = (w.toUInt64 >>> ((48 : Int32).toInt64.toUInt64 &&& Int64.toUInt64 63)).toInt64 := ⟨_, rfl⟩
                  refine lv_lushr (pc := 70) (v := x123) C0.1 C0.2.1 dX10_feed_70 (by rw [ex123]) ?_
                  refine lv_l2i (pc := 71) (v := x123.toInt32) C0.1 C0.2.1 dX10_feed_71 rfl ?_
                  refine lv_i2b (pc := 72) (v := x123.toInt32.toInt8.toInt32) C0.1 C0.2.1 dX10_feed_72 rfl ?_
                  refine xbast (pc := 73) (N := 600) C0 (Nat.le_of_ble_eq_true rfl) hH hS 85 ⟨Nat.le_of_ble_eq_true rfl, Nat.le_of_ble_eq_true rfl⟩ ⟨rfl, rfl⟩ (vin (by decide)) dX10_feed_73 (fun _ locs hH hS => ?_)
                  have hH : Hd D tA b 78 52 zz i (va_up (va_up (va_up (va_up (va_up (va_up (va_up F 85 (upd (F 85) (Int32.toNatClampNeg 0) (Int8.toInt32 (Int32.toInt8 x105.toInt32.toInt8.toInt32)))) 85 (upd (upd (F 85) (Int32.toNatClampNeg 0) (Int8.toInt32 (Int32.toInt8 x105.toInt32.toInt8.toInt32))) (Int32.toNatClampNeg 1) (Int8.toInt32 (Int32.toInt8 x108.toInt32.toInt8.toInt32)))) 85 (upd (upd (upd (F 85) (Int32.toNatClampNeg 0) (Int8.toInt32 (Int32.toInt8 x105.toInt32.toInt8.toInt32))) (Int32.toNatClampNeg 1) (Int8.toInt32 (Int32.toInt8 x108.toInt32.toInt8.toInt32))) (Int32.toNatClampNeg 2) (Int8.toInt32 (Int32.toInt8 x111.toInt32.toInt8.toInt32)))) 85 (upd (upd (upd (upd (F 85) (Int32.toNatClampNeg 0) (Int8.toInt32 (Int32.toInt8 x105.toInt32.toInt8.toInt32))) (Int32.toNatClampNeg 1) (Int8.toInt32 (Int32.toInt8 x108.toInt32.toInt8.toInt32))) (Int32.toNatClampNeg 2) (Int8.toInt32 (Int32.toInt8 x111.toInt32.toInt8.toInt32))) (Int32.toNatClampNeg 3) (Int8.toInt32 (Int32.toInt8 x114.toInt32.toInt8.toInt32)))) 85 (upd (upd (upd (upd (upd (F 85) (Int32.toNatClampNeg 0) (Int8.toInt32 (Int32.toInt8 x105.toInt32.toInt8.toInt32))) (Int32.toNatClampNeg 1) (Int8.toInt32 (Int32.toInt8 x108.toInt32.toInt8.toInt32))) (Int32.toNatClampNeg 2) (Int8.toInt32 (Int32.toInt8 x111.toInt32.toInt8.toInt32))) (Int32.toNatClampNeg 3) (Int8.toInt32 (Int32.toInt8 x114.toInt32.toInt8.toInt32))) (Int32.toNatClampNeg 4) (Int8.toInt32 (Int32.toInt8 x117.toInt32.toInt8.toInt32)))) 85 (upd (upd (upd (upd (upd (upd (F 85) (Int32.toNatClampNeg 0) (Int8.toInt32 (Int32.toInt8 x105.toInt32.toInt8.toInt32))) (Int32.toNatClampNeg 1) (Int8.toInt32 (Int32.toInt8 x108.toInt32.toInt8.toInt32))) (Int32.toNatClampNeg 2) (Int8.toInt32 (Int32.toInt8 x111.toInt32.toInt8.toInt32))) (Int32.toNatClampNeg 3) (Int8.toInt32 (Int32.toInt8 x114.toInt32.toInt8.toInt32))) (Int32.toNatClampNeg 4) (Int8.toInt32 (Int32.toInt8 x117.toInt32.toInt8.toInt32))) (Int32.toNatClampNeg 5) (Int8.toInt32 (Int32.toInt8 x120.toInt32.toInt8.toInt32)))) 85 (upd (upd (upd (upd (upd (upd (upd (F 85) (Int32.toNatClampNeg 0) (Int8.toInt32 (Int32.toInt8 x105.toInt32.toInt8.toInt32))) (Int32.toNatClampNeg 1) (Int8.toInt32 (Int32.toInt8 x108.toInt32.toInt8.toInt32))) (Int32.toNatClampNeg 2) (Int8.toInt32 (Int32.toInt8 x111.toInt32.toInt8.toInt32))) (Int32.toNatClampNeg 3) (Int8.toInt32 (Int32.toInt8 x114.toInt32.toInt8.toInt32))) (Int32.toNatClampNeg 4) (Int8.toInt32 (Int32.toInt8 x117.toInt32.toInt8.toInt32))) (Int32.toNatClampNeg 5) (Int8.toInt32 (Int32.toInt8 x120.toInt32.toInt8.toInt32))) (Int32.toNatClampNeg 6) (Int8.toInt32 (Int32.toInt8 x123.toInt32.toInt8.toInt32)))) G _ := hH
                  refine lv_iinc (pc := 74) (v := 7) (lv' := [(4, .int 7), (3, .int 7), (0, .ref (b + 78)), (1, .long w)]) C0.1 C0.2.1 dX10_feed_74 hl (k := 0) rfl (by decide) (by decide) rfl (fun ls hl => ?_)
                  refine lv_goto (pc := 77) (tgt := 47) C0.1 C0.2.1 dX10_feed_77 (by decide) ?_
                  refine lv_iload (pc := 47) C0.1 C0.2.1 dX10_feed_47 (lv_at hl 0 rfl) ?_
                  refine lv_iload_n (pc := 49) C0.1 C0.2.1 dX10_feed_49 rfl (lv_at hl 1 rfl) ?_
                  refine lv_icmp_ge (pc := 50) (tgt := 80) C0.1 C0.2.1 dX10_feed_50 (by decide) (fun _ => ?_) (fun c => absurd (by decide) c)
                  refine lv_aload_n (pc := 80) C0.1 C0.2.1 dX10_feed_80 rfl (lv_at hl 2 rfl) ?_
                  refine lv_dup (pc := 81) C0.1 C0.2.1 dX10_feed_81 rfl ?_
                  refine xget (pc := 82) C0 hH 78 12 clX10 ⟨Nat.le_of_ble_eq_true rfl, Nat.le_of_ble_eq_true rfl⟩ ⟨rfl, rfl⟩ (Nat.le_of_ble_eq_true rfl) fl_X10_219 (v := .int 0) (congrArg Value.int hi_78_12) dX10_feed_82 ?_
                  refine lv_iload_n (pc := 85) C0.1 C0.2.1 dX10_feed_85 rfl (lv_at hl 1 rfl) ?_
                  refine lv_iadd (pc := 86) C0.1 C0.2.1 dX10_feed_86 ?_
                  refine lv_topi (fun q124 eq124 => ?_)
                  obtain rfl : q124 = 7 := eq124.trans (by decide)
                  refine xputI (pc := 87) C0 (Nat.le_of_ble_eq_true rfl) hH hS 78 12 clX10 ⟨Nat.le_of_ble_eq_true rfl, Nat.le_of_ble_eq_true rfl⟩ ⟨rfl, rfl⟩ ⟨Nat.le_of_ble_eq_true rfl, rfl, rfl⟩ fl_X10_219 (x := 7) ⟨rfl, rfl⟩ dX10_feed_87 (fun _ locs hH hS _ => ?_)
                  have hH : Hd D tA b 78 52 zz (up2 i 78 12 7) (va_up (va_up (va_up (va_up (va_up (va_up (va_up F 85 (upd (F 85) (Int32.toNatClampNeg 0) (Int8.toInt32 (Int32.toInt8 x105.toInt32.toInt8.toInt32)))) 85 (upd (upd (F 85) (Int32.toNatClampNeg 0) (Int8.toInt32 (Int32.toInt8 x105.toInt32.toInt8.toInt32))) (Int32.toNatClampNeg 1) (Int8.toInt32 (Int32.toInt8 x108.toInt32.toInt8.toInt32)))) 85 (upd (upd (upd (F 85) (Int32.toNatClampNeg 0) (Int8.toInt32 (Int32.toInt8 x105.toInt32.toInt8.toInt32))) (Int32.toNatClampNeg 1) (Int8.toInt32 (Int32.toInt8 x108.toInt32.toInt8.toInt32))) (Int32.toNatClampNeg 2) (Int8.toInt32 (Int32.toInt8 x111.toInt32.toInt8.toInt32)))) 85 (upd (upd (upd (upd (F 85) (Int32.toNatClampNeg 0) (Int8.toInt32 (Int32.toInt8 x105.toInt32.toInt8.toInt32))) (Int32.toNatClampNeg 1) (Int8.toInt32 (Int32.toInt8 x108.toInt32.toInt8.toInt32))) (Int32.toNatClampNeg 2) (Int8.toInt32 (Int32.toInt8 x111.toInt32.toInt8.toInt32))) (Int32.toNatClampNeg 3) (Int8.toInt32 (Int32.toInt8 x114.toInt32.toInt8.toInt32)))) 85 (upd (upd (upd (upd (upd (F 85) (Int32.toNatClampNeg 0) (Int8.toInt32 (Int32.toInt8 x105.toInt32.toInt8.toInt32))) (Int32.toNatClampNeg 1) (Int8.toInt32 (Int32.toInt8 x108.toInt32.toInt8.toInt32))) (Int32.toNatClampNeg 2) (Int8.toInt32 (Int32.toInt8 x111.toInt32.toInt8.toInt32))) (Int32.toNatClampNeg 3) (Int8.toInt32 (Int32.toInt8 x114.toInt32.toInt8.toInt32))) (Int32.toNatClampNeg 4) (Int8.toInt32 (Int32.toInt8 x117.toInt32.toInt8.toInt32)))) 85 (upd (upd (upd (upd (upd (upd (F 85) (Int32.toNatClampNeg 0) (Int8.toInt32 (Int32.toInt8 x105.toInt32.toInt8.toInt32))) (Int32.toNatClampNeg 1) (Int8.toInt32 (Int32.toInt8 x108.toInt32.toInt8.toInt32))) (Int32.toNatClampNeg 2) (Int8.toInt32 (Int32.toInt8 x111.toInt32.toInt8.toInt32))) (Int32.toNatClampNeg 3) (Int8.toInt32 (Int32.toInt8 x114.toInt32.toInt8.toInt32))) (Int32.toNatClampNeg 4) (Int8.toInt32 (Int32.toInt8 x117.toInt32.toInt8.toInt32))) (Int32.toNatClampNeg 5) (Int8.toInt32 (Int32.toInt8 x120.toInt32.toInt8.toInt32)))) 85 (upd (upd (upd (upd (upd (upd (upd (F 85) (Int32.toNatClampNeg 0) (Int8.toInt32 (Int32.toInt8 x105.toInt32.toInt8.toInt32))) (Int32.toNatClampNeg 1) (Int8.toInt32 (Int32.toInt8 x108.toInt32.toInt8.toInt32))) (Int32.toNatClampNeg 2) (Int8.toInt32 (Int32.toInt8 x111.toInt32.toInt8.toInt32))) (Int32.toNatClampNeg 3) (Int8.toInt32 (Int32.toInt8 x114.toInt32.toInt8.toInt32))) (Int32.toNatClampNeg 4) (Int8.toInt32 (Int32.toInt8 x117.toInt32.toInt8.toInt32))) (Int32.toNatClampNeg 5) (Int8.toInt32 (Int32.toInt8 x120.toInt32.toInt8.toInt32))) (Int32.toNatClampNeg 6) (Int8.toInt32 (Int32.toInt8 x123.toInt32.toInt8.toInt32)))) G _ := hH
                  refine lv_aload_n (pc := 90) C0.1 C0.2.1 dX10_feed_90 rfl (lv_at hl 2 rfl) ?_
                  refine lv_iconst (pc := 91) (v := 0) C0.1 C0.2.1 dX10_feed_91 (by decide) ?_
                  refine xputI (pc := 92) C0 (Nat.le_of_ble_eq_true rfl) hH hS 78 15 clX10 ⟨Nat.le_of_ble_eq_true rfl, Nat.le_of_ble_eq_true rfl⟩ ⟨rfl, rfl⟩ ⟨Nat.le_of_ble_eq_true rfl, rfl, rfl⟩ fl_X10_211 (x := 0) ⟨rfl, rfl⟩ dX10_feed_92 (fun _ locs hH hS _ => ?_)
                  have hH : Hd D tA b 78 52 zz (up2 (up2 i 78 12 7) 78 15 0) (va_up (va_up (va_up (va_up (va_up (va_up (va_up F 85 (upd (F 85) (Int32.toNatClampNeg 0) (Int8.toInt32 (Int32.toInt8 x105.toInt32.toInt8.toInt32)))) 85 (upd (upd (F 85) (Int32.toNatClampNeg 0) (Int8.toInt32 (Int32.toInt8 x105.toInt32.toInt8.toInt32))) (Int32.toNatClampNeg 1) (Int8.toInt32 (Int32.toInt8 x108.toInt32.toInt8.toInt32)))) 85 (upd (upd (upd (F 85) (Int32.toNatClampNeg 0) (Int8.toInt32 (Int32.toInt8 x105.toInt32.toInt8.toInt32))) (Int32.toNatClampNeg 1) (Int8.toInt32 (Int32.toInt8 x108.toInt32.toInt8.toInt32))) (Int32.toNatClampNeg 2) (Int8.toInt32 (Int32.toInt8 x111.toInt32.toInt8.toInt32)))) 85 (upd (upd (upd (upd (F 85) (Int32.toNatClampNeg 0) (Int8.toInt32 (Int32.toInt8 x105.toInt32.toInt8.toInt32))) (Int32.toNatClampNeg 1) (Int8.toInt32 (Int32.toInt8 x108.toInt32.toInt8.toInt32))) (Int32.toNatClampNeg 2) (Int8.toInt32 (Int32.toInt8 x111.toInt32.toInt8.toInt32))) (Int32.toNatClampNeg 3) (Int8.toInt32 (Int32.toInt8 x114.toInt32.toInt8.toInt32)))) 85 (upd (upd (upd (upd (upd (F 85) (Int32.toNatClampNeg 0) (Int8.toInt32 (Int32.toInt8 x105.toInt32.toInt8.toInt32))) (Int32.toNatClampNeg 1) (Int8.toInt32 (Int32.toInt8 x108.toInt32.toInt8.toInt32))) (Int32.toNatClampNeg 2) (Int8.toInt32 (Int32.toInt8 x111.toInt32.toInt8.toInt32))) (Int32.toNatClampNeg 3) (Int8.toInt32 (Int32.toInt8 x114.toInt32.toInt8.toInt32))) (Int32.toNatClampNeg 4) (Int8.toInt32 (Int32.toInt8 x117.toInt32.toInt8.toInt32)))) 85 (upd (upd (upd (upd (upd (upd (F 85) (Int32.toNatClampNeg 0) (Int8.toInt32 (Int32.toInt8 x105.toInt32.toInt8.toInt32))) (Int32.toNatClampNeg 1) (Int8.toInt32 (Int32.toInt8 x108.toInt32.toInt8.toInt32))) (Int32.toNatClampNeg 2) (Int8.toInt32 (Int32.toInt8 x111.toInt32.toInt8.toInt32))) (Int32.toNatClampNeg 3) (Int8.toInt32 (Int32.toInt8 x114.toInt32.toInt8.toInt32))) (Int32.toNatClampNeg 4) (Int8.toInt32 (Int32.toInt8 x117.toInt32.toInt8.toInt32))) (Int32.toNatClampNeg 5) (Int8.toInt32 (Int32.toInt8 x120.toInt32.toInt8.toInt32)))) 85 (upd (upd (upd (upd (upd (upd (upd (F 85) (Int32.toNatClampNeg 0) (Int8.toInt32 (Int32.toInt8 x105.toInt32.toInt8.toInt32))) (Int32.toNatClampNeg 1) (Int8.toInt32 (Int32.toInt8 x108.toInt32.toInt8.toInt32))) (Int32.toNatClampNeg 2) (Int8.toInt32 (Int32.toInt8 x111.toInt32.toInt8.toInt32))) (Int32.toNatClampNeg 3) (Int8.toInt32 (Int32.toInt8 x114.toInt32.toInt8.toInt32))) (Int32.toNatClampNeg 4) (Int8.toInt32 (Int32.toInt8 x117.toInt32.toInt8.toInt32))) (Int32.toNatClampNeg 5) (Int8.toInt32 (Int32.toInt8 x120.toInt32.toInt8.toInt32))) (Int32.toNatClampNeg 6) (Int8.toInt32 (Int32.toInt8 x123.toInt32.toInt8.toInt32)))) G _ := hH
                  refine lv_aload_n (pc := 95) C0.1 C0.2.1 dX10_feed_95 rfl (lv_at hl 2 rfl) ?_
                  refine xget (pc := 96) C0 hH 78 12 clX10 ⟨Nat.le_of_ble_eq_true rfl, Nat.le_of_ble_eq_true rfl⟩ ⟨rfl, rfl⟩ (Nat.le_of_ble_eq_true rfl) fl_X10_219 (v := .int 7) rfl dX10_feed_96 ?_
                  exact xiret (pc := 99) C0 hr hH hS dX10_feed_99 (by rw [show zl w = 7 from by unfold zl; simp only [z0, z1, z2, z3, z4, z5, z6, z7, if_true, if_false]]; rfl)
                · have z7 : ¬ bt w 7 = 0 := fun q => z7 ((lg_cmp_eq _ _).mpr (by rw [q]; rfl))
                  refine lv_iinc (pc := 23) (v := 8) (lv' := [(3, .int 8), (0, .ref (b + 78)), (1, .long w)]) C0.1 C0.2.1 dX10_feed_23 hl (k := 0) rfl (by decide) (by decide) rfl (fun ls hl => ?_)
                  refine lv_goto (pc := 26) (tgt := 2) C0.1 C0.2.1 dX10_feed_26 (by decide) ?_
                  refine lv_iload_n (pc := 2) C0.1 C0.2.1 dX10_feed_2 rfl (lv_at hl 0 rfl) ?_
                  refine lv_bipush (pc := 3) (v := 8) C0.1 C0.2.1 dX10_feed_3 (by decide) ?_
                  refine lv_icmp_ge (pc := 5) (tgt := 29) C0.1 C0.2.1 dX10_feed_5 (by decide) (fun _ => ?_) (fun c => absurd (by decide) c)
                  refine lv_aload_n (pc := 29) C0.1 C0.2.1 dX10_feed_29 rfl (lv_at hl 1 rfl) ?_
                  refine xget (pc := 30) C0 hH 78 12 clX10 ⟨Nat.le_of_ble_eq_true rfl, Nat.le_of_ble_eq_true rfl⟩ ⟨rfl, rfl⟩ (Nat.le_of_ble_eq_true rfl) fl_X10_219 (v := .int 0) (congrArg Value.int hi_78_12) dX10_feed_30 ?_
                  refine lv_iload_n (pc := 33) C0.1 C0.2.1 dX10_feed_33 rfl (lv_at hl 0 rfl) ?_
                  refine lv_iadd (pc := 34) C0.1 C0.2.1 dX10_feed_34 ?_
                  refine lv_topi (fun q125 eq125 => ?_)
                  obtain rfl : q125 = 8 := eq125.trans (by decide)
                  refine lv_sipush (pc := 35) (v := 600) C0.1 C0.2.1 dX10_feed_35 (by decide) ?_
                  refine lv_icmp_le (pc := 38) (tgt := 44) C0.1 C0.2.1 dX10_feed_38 (by decide) (fun _ => ?_) (fun c => absurd (by decide) c)
                  refine lv_iconst (pc := 44) (v := 0) C0.1 C0.2.1 dX10_feed_44 (by decide) ?_
                  refine lv_istore (pc := 45) (lv' := [(4, .int 0), (3, .int 8), (0, .ref (b + 78)), (1, .long w)]) C0.1 C0.2.1 dX10_feed_45 hl (by decide) rfl (fun ls hl => ?_)
                  refine lv_iload (pc := 47) C0.1 C0.2.1 dX10_feed_47 (lv_at hl 0 rfl) ?_
                  refine lv_iload_n (pc := 49) C0.1 C0.2.1 dX10_feed_49 rfl (lv_at hl 1 rfl) ?_
                  refine lv_icmp_ge (pc := 50) (tgt := 80) C0.1 C0.2.1 dX10_feed_50 (by decide) (fun c => absurd c (by decide)) (fun _ => ?_)
                  refine lv_aload_n (pc := 53) C0.1 C0.2.1 dX10_feed_53 rfl (lv_at hl 2 rfl) ?_
                  refine xget (pc := 54) C0 hH 78 11 clX10 ⟨Nat.le_of_ble_eq_true rfl, Nat.le_of_ble_eq_true rfl⟩ ⟨rfl, rfl⟩ (Nat.le_of_ble_eq_true rfl) fl_X10_29 (v := .ref (b + 85)) rfl dX10_feed_54 ?_
                  refine lv_aload_n (pc := 57) C0.1 C0.2.1 dX10_feed_57 rfl (lv_at hl 2 rfl) ?_
                  refine xget (pc := 58) C0 hH 78 12 clX10 ⟨Nat.le_of_ble_eq_true rfl, Nat.le_of_ble_eq_true rfl⟩ ⟨rfl, rfl⟩ (Nat.le_of_ble_eq_true rfl) fl_X10_219 (v := .int 0) (congrArg Value.int hi_78_12) dX10_feed_58 ?_
                  refine lv_iload (pc := 61) C0.1 C0.2.1 dX10_feed_61 (lv_at hl 0 rfl) ?_
                  refine lv_iadd (pc := 63) C0.1 C0.2.1 dX10_feed_63 ?_
                  refine lv_topi (fun q126 eq126 => ?_)
                  obtain rfl : q126 = 0 := eq126.trans (by decide)
                  refine lv_lload_n (pc := 64) C0.1 C0.2.1 dX10_feed_64 rfl (lv_at hl 3 rfl) ?_
                  refine lv_bipush (pc := 65) (v := 8) C0.1 C0.2.1 dX10_feed_65 (by decide) ?_
                  refine lv_iload (pc := 67) C0.1 C0.2.1 dX10_feed_67 (lv_at hl 0 rfl) ?_
                  refine lv_imul (pc := 69) C0.1 C0.2.1 dX10_feed_69 ?_
                  refine lv_topi (fun q127 eq127 => ?_)
                  obtain rfl : q127 = 0 := eq127.trans (by decide)
                  obtain ⟨x128, ex128⟩ : ∃ y : Int64, y = (w.toUInt64 >>> ((0 : Int32).toInt64.toUInt64 &&& Int64.toUInt64 63)).toInt64 := ⟨_, rfl⟩
                  refine lv_lushr (pc := 70) (v := x128) C0.1 C0.2.1 dX10_feed_70 (by rw [ex128]) ?_
                  refine lv_l2i (pc := 71) (v := x128.toInt32) C0.1 C0.2.1 dX10_feed_71 rfl ?_
                  refine lv_i2b (pc := 72) (v := x128.toInt32.toInt8.toInt32) C0.1 C0.2.1 dX10_feed_72 rfl ?_
                  refine xbast (pc := 73) (N := 600) C0 (Nat.le_of_ble_eq_true rfl) hH hS 85 ⟨Nat.le_of_ble_eq_true rfl, Nat.le_of_ble_eq_true rfl⟩ ⟨rfl, rfl⟩ (vin (by decide)) dX10_feed_73 (fun _ locs hH hS => ?_)
                  have hH : Hd D tA b 78 52 zz i (va_up F 85 (upd (F 85) (Int32.toNatClampNeg 0) (Int8.toInt32 (Int32.toInt8 x128.toInt32.toInt8.toInt32)))) G _ := hH
                  refine lv_iinc (pc := 74) (v := 1) (lv' := [(4, .int 1), (3, .int 8), (0, .ref (b + 78)), (1, .long w)]) C0.1 C0.2.1 dX10_feed_74 hl (k := 0) rfl (by decide) (by decide) rfl (fun ls hl => ?_)
                  refine lv_goto (pc := 77) (tgt := 47) C0.1 C0.2.1 dX10_feed_77 (by decide) ?_
                  refine lv_iload (pc := 47) C0.1 C0.2.1 dX10_feed_47 (lv_at hl 0 rfl) ?_
                  refine lv_iload_n (pc := 49) C0.1 C0.2.1 dX10_feed_49 rfl (lv_at hl 1 rfl) ?_
                  refine lv_icmp_ge (pc := 50) (tgt := 80) C0.1 C0.2.1 dX10_feed_50 (by decide) (fun c => absurd c (by decide)) (fun _ => ?_)
                  refine lv_aload_n (pc := 53) C0.1 C0.2.1 dX10_feed_53 rfl (lv_at hl 2 rfl) ?_
                  refine xget (pc := 54) C0 hH 78 11 clX10 ⟨Nat.le_of_ble_eq_true rfl, Nat.le_of_ble_eq_true rfl⟩ ⟨rfl, rfl⟩ (Nat.le_of_ble_eq_true rfl) fl_X10_29 (v := .ref (b + 85)) rfl dX10_feed_54 ?_
                  refine lv_aload_n (pc := 57) C0.1 C0.2.1 dX10_feed_57 rfl (lv_at hl 2 rfl) ?_
                  refine xget (pc := 58) C0 hH 78 12 clX10 ⟨Nat.le_of_ble_eq_true rfl, Nat.le_of_ble_eq_true rfl⟩ ⟨rfl, rfl⟩ (Nat.le_of_ble_eq_true rfl) fl_X10_219 (v := .int 0) (congrArg Value.int hi_78_12) dX10_feed_58 ?_
                  refine lv_iload (pc := 61) C0.1 C0.2.1 dX10_feed_61 (lv_at hl 0 rfl) ?_
                  refine lv_iadd (pc := 63) C0.1 C0.2.1 dX10_feed_63 ?_
                  refine lv_topi (fun q129 eq129 => ?_)
                  obtain rfl : q129 = 1 := eq129.trans (by decide)
                  refine lv_lload_n (pc := 64) C0.1 C0.2.1 dX10_feed_64 rfl (lv_at hl 3 rfl) ?_
                  refine lv_bipush (pc := 65) (v := 8) C0.1 C0.2.1 dX10_feed_65 (by decide) ?_
                  refine lv_iload (pc := 67) C0.1 C0.2.1 dX10_feed_67 (lv_at hl 0 rfl) ?_
                  refine lv_imul (pc := 69) C0.1 C0.2.1 dX10_feed_69 ?_
                  refine lv_topi (fun q130 eq130 => ?_)
                  obtain rfl : q130 = 8 := eq130.trans (by decide)
                  obtain ⟨x131, ex131⟩ : ∃ y : Int64, y = (w.toUInt64 >>> ((8 : Int32).toInt64.toUInt64 &&& Int64.toUInt64 63)).toInt64 := ⟨_, rfl⟩
                  refine lv_lushr (pc := 70) (v := x131) C0.1 C0.2.1 dX10_feed_70 (by rw [ex131]) ?_
                  refine lv_l2i (pc := 71) (v := x131.toInt32) C0.1 C0.2.1 dX10_feed_71 rfl ?_
                  refine lv_i2b (pc := 72) (v := x131.toInt32.toInt8.toInt32) C0.1 C0.2.1 dX10_feed_72 rfl ?_
                  refine xbast (pc := 73) (N := 600) C0 (Nat.le_of_ble_eq_true rfl) hH hS 85 ⟨Nat.le_of_ble_eq_true rfl, Nat.le_of_ble_eq_true rfl⟩ ⟨rfl, rfl⟩ (vin (by decide)) dX10_feed_73 (fun _ locs hH hS => ?_)
                  have hH : Hd D tA b 78 52 zz i (va_up (va_up F 85 (upd (F 85) (Int32.toNatClampNeg 0) (Int8.toInt32 (Int32.toInt8 x128.toInt32.toInt8.toInt32)))) 85 (upd (upd (F 85) (Int32.toNatClampNeg 0) (Int8.toInt32 (Int32.toInt8 x128.toInt32.toInt8.toInt32))) (Int32.toNatClampNeg 1) (Int8.toInt32 (Int32.toInt8 x131.toInt32.toInt8.toInt32)))) G _ := hH
                  refine lv_iinc (pc := 74) (v := 2) (lv' := [(4, .int 2), (3, .int 8), (0, .ref (b + 78)), (1, .long w)]) C0.1 C0.2.1 dX10_feed_74 hl (k := 0) rfl (by decide) (by decide) rfl (fun ls hl => ?_)
                  refine lv_goto (pc := 77) (tgt := 47) C0.1 C0.2.1 dX10_feed_77 (by decide) ?_
                  refine lv_iload (pc := 47) C0.1 C0.2.1 dX10_feed_47 (lv_at hl 0 rfl) ?_
                  refine lv_iload_n (pc := 49) C0.1 C0.2.1 dX10_feed_49 rfl (lv_at hl 1 rfl) ?_
                  refine lv_icmp_ge (pc := 50) (tgt := 80) C0.1 C0.2.1 dX10_feed_50 (by decide) (fun c => absurd c (by decide)) (fun _ => ?_)
                  refine lv_aload_n (pc := 53) C0.1 C0.2.1 dX10_feed_53 rfl (lv_at hl 2 rfl) ?_
                  refine xget (pc := 54) C0 hH 78 11 clX10 ⟨Nat.le_of_ble_eq_true rfl, Nat.le_of_ble_eq_true rfl⟩ ⟨rfl, rfl⟩ (Nat.le_of_ble_eq_true rfl) fl_X10_29 (v := .ref (b + 85)) rfl dX10_feed_54 ?_
                  refine lv_aload_n (pc := 57) C0.1 C0.2.1 dX10_feed_57 rfl (lv_at hl 2 rfl) ?_
                  refine xget (pc := 58) C0 hH 78 12 clX10 ⟨Nat.le_of_ble_eq_true rfl, Nat.le_of_ble_eq_true rfl⟩ ⟨rfl, rfl⟩ (Nat.le_of_ble_eq_true rfl) fl_X10_219 (v := .int 0) (congrArg Value.int hi_78_12) dX10_feed_58 ?_
                  refine lv_iload (pc := 61) C0.1 C0.2.1 dX10_feed_61 (lv_at hl 0 rfl) ?_
                  refine lv_iadd (pc := 63) C0.1 C0.2.1 dX10_feed_63 ?_
                  refine lv_topi (fun q132 eq132 => ?_)
                  obtain rfl : q132 = 2 := eq132.trans (by decide)
                  refine lv_lload_n (pc := 64) C0.1 C0.2.1 dX10_feed_64 rfl (lv_at hl 3 rfl) ?_
                  refine lv_bipush (pc := 65) (v := 8) C0.1 C0.2.1 dX10_feed_65 (by decide) ?_
                  refine lv_iload (pc := 67) C0.1 C0.2.1 dX10_feed_67 (lv_at hl 0 rfl) ?_
                  refine lv_imul (pc := 69) C0.1 C0.2.1 dX10_feed_69 ?_
                  refine lv_topi (fun q133 eq133 => ?_)
                  obtain rfl : q133 = 16 := eq133.trans (by decide)
                  obtain ⟨x134, ex134⟩ : ∃ y : Int64, y = (w.toUInt64 >>> ((16 : Int32).toInt64.toUInt64 &&& Int64.toUInt64 63)).toInt64 := ⟨_, rfl⟩
                  refine lv_lushr (pc := 70) (v := x134) C0.1 C0.2.1 dX10_feed_70 (by rw [ex134]) ?_
                  refine lv_l2i (pc := 71) (v := x134.toInt32) C0.1 C0.2.1 dX10_feed_71 rfl ?_
                  refine lv_i2b (pc := 72) (v := x134.toInt32.toInt8.toInt32) C0.1 C0.2.1 dX10_feed_72 rfl ?_
                  refine xbast (pc := 73) (N := 600) C0 (Nat.le_of_ble_eq_true rfl) hH hS 85 ⟨Nat.le_of_ble_eq_true rfl, Nat.le_of_ble_eq_true rfl⟩ ⟨rfl, rfl⟩ (vin (by decide)) dX10_feed_73 (fun _ locs hH hS => ?_)
                  have hH : Hd D tA b 78 52 zz i (va_up (va_up (va_up F 85 (upd (F 85) (Int32.toNatClampNeg 0) (Int8.toInt32 (Int32.toInt8 x128.toInt32.toInt8.toInt32)))) 85 (upd (upd (F 85) (Int32.toNatClampNeg 0) (Int8.toInt32 (Int32.toInt8 x128.toInt32.toInt8.toInt32))) (Int32.toNatClampNeg 1) (Int8.toInt32 (Int32.toInt8 x131.toInt32.toInt8.toInt32)))) 85 (upd (upd (upd (F 85) (Int32.toNatClampNeg 0) (Int8.toInt32 (Int32.toInt8 x128.toInt32.toInt8.toInt32))) (Int32.toNatClampNeg 1) (Int8.toInt32 (Int32.toInt8 x131.toInt32.toInt8.toInt32))) (Int32.toNatClampNeg 2) (Int8.toInt32 (Int32.toInt8 x134.toInt32.toInt8.toInt32)))) G _ := hH
                  refine lv_iinc (pc := 74) (v := 3) (lv' := [(4, .int 3), (3, .int 8), (0, .ref (b + 78)), (1, .long w)]) C0.1 C0.2.1 dX10_feed_74 hl (k := 0) rfl (by decide) (by decide) rfl (fun ls hl => ?_)
                  refine lv_goto (pc := 77) (tgt := 47) C0.1 C0.2.1 dX10_feed_77 (by decide) ?_
                  refine lv_iload (pc := 47) C0.1 C0.2.1 dX10_feed_47 (lv_at hl 0 rfl) ?_
                  refine lv_iload_n (pc := 49) C0.1 C0.2.1 dX10_feed_49 rfl (lv_at hl 1 rfl) ?_
                  refine lv_icmp_ge (pc := 50) (tgt := 80) C0.1 C0.2.1 dX10_feed_50 (by decide) (fun c => absurd c (by decide)) (fun _ => ?_)
                  refine lv_aload_n (pc := 53) C0.1 C0.2.1 dX10_feed_53 rfl (lv_at hl 2 rfl) ?_
                  refine xget (pc := 54) C0 hH 78 11 clX10 ⟨Nat.le_of_ble_eq_true rfl, Nat.le_of_ble_eq_true rfl⟩ ⟨rfl, rfl⟩ (Nat.le_of_ble_eq_true rfl) fl_X10_29 (v := .ref (b + 85)) rfl dX10_feed_54 ?_
                  refine lv_aload_n (pc := 57) C0.1 C0.2.1 dX10_feed_57 rfl (lv_at hl 2 rfl) ?_
                  refine xget (pc := 58) C0 hH 78 12 clX10 ⟨Nat.le_of_ble_eq_true rfl, Nat.le_of_ble_eq_true rfl⟩ ⟨rfl, rfl⟩ (Nat.le_of_ble_eq_true rfl) fl_X10_219 (v := .int 0) (congrArg Value.int hi_78_12) dX10_feed_58 ?_
                  refine lv_iload (pc := 61) C0.1 C0.2.1 dX10_feed_61 (lv_at hl 0 rfl) ?_
                  refine lv_iadd (pc := 63) C0.1 C0.2.1 dX10_feed_63 ?_
                  refine lv_topi (fun q135 eq135 => ?_)
                  obtain rfl : q135 = 3 := eq135.trans (by decide)
                  refine lv_lload_n (pc := 64) C0.1 C0.2.1 dX10_feed_64 rfl (lv_at hl 3 rfl) ?_
                  refine lv_bipush (pc := 65) (v := 8) C0.1 C0.2.1 dX10_feed_65 (by decide) ?_
                  refine lv_iload (pc := 67) C0.1 C0.2.1 dX10_feed_67 (lv_at hl 0 rfl) ?_
                  refine lv_imul (pc := 69) C0.1 C0.2.1 dX10_feed_69 ?_
                  refine lv_topi (fun q136 eq136 => ?_)
                  obtain rfl : q136 = 24 := eq136.trans (by decide)
                  obtain ⟨x137, ex137⟩ : ∃ y : Int64, y = (w.toUInt64 >>> ((24 : Int32).toInt64.toUInt64 &&& Int64.toUInt64 63)).toInt64 := ⟨_, rfl⟩
                  refine lv_lushr (pc := 70) (v := x137) C0.1 C0.2.1 dX10_feed_70 (by rw [ex137]) ?_
                  refine lv_l2i (pc := 71) (v := x137.toInt32) C0.1 C0.2.1 dX10_feed_71 rfl ?_
                  refine lv_i2b (pc := 72) (v := x137.toInt32.toInt8.toInt32) C0.1 C0.2.1 dX10_feed_72 rfl ?_
                  refine xbast (pc := 73) (N := 600) C0 (Nat.le_of_ble_eq_true rfl) hH hS 85 ⟨Nat.le_of_ble_eq_true rfl, Nat.le_of_ble_eq_true rfl⟩ ⟨rfl, rfl⟩ (vin (by decide)) dX10_feed_73 (fun _ locs hH hS => ?_)
                  have hH : Hd D tA b 78 52 zz i (va_up (va_up (va_up (va_up F 85 (upd (F 85) (Int32.toNatClampNeg 0) (Int8.toInt32 (Int32.toInt8 x128.toInt32.toInt8.toInt32)))) 85 (upd (upd (F 85) (Int32.toNatClampNeg 0) (Int8.toInt32 (Int32.toInt8 x128.toInt32.toInt8.toInt32))) (Int32.toNatClampNeg 1) (Int8.toInt32 (Int32.toInt8 x131.toInt32.toInt8.toInt32)))) 85 (upd (upd (upd (F 85) (Int32.toNatClampNeg 0) (Int8.toInt32 (Int32.toInt8 x128.toInt32.toInt8.toInt32))) (Int32.toNatClampNeg 1) (Int8.toInt32 (Int32.toInt8 x131.toInt32.toInt8.toInt32))) (Int32.toNatClampNeg 2) (Int8.toInt32 (Int32.toInt8 x134.toInt32.toInt8.toInt32)))) 85 (upd (upd (upd (upd (F 85) (Int32.toNatClampNeg 0) (Int8.toInt32 (Int32.toInt8 x128.toInt32.toInt8.toInt32))) (Int32.toNatClampNeg 1) (Int8.toInt32 (Int32.toInt8 x131.toInt32.toInt8.toInt32))) (Int32.toNatClampNeg 2) (Int8.toInt32 (Int32.toInt8 x134.toInt32.toInt8.toInt32))) (Int32.toNatClampNeg 3) (Int8.toInt32 (Int32.toInt8 x137.toInt32.toInt8.toInt32)))) G _ := hH
                  refine lv_iinc (pc := 74) (v := 4) (lv' := [(4, .int 4), (3, .int 8), (0, .ref (b + 78)), (1, .long w)]) C0.1 C0.2.1 dX10_feed_74 hl (k := 0) rfl (by decide) (by decide) rfl (fun ls hl => ?_)
                  refine lv_goto (pc := 77) (tgt := 47) C0.1 C0.2.1 dX10_feed_77 (by decide) ?_
                  refine lv_iload (pc := 47) C0.1 C0.2.1 dX10_feed_47 (lv_at hl 0 rfl) ?_
                  refine lv_iload_n (pc := 49) C0.1 C0.2.1 dX10_feed_49 rfl (lv_at hl 1 rfl) ?_
                  refine lv_icmp_ge (pc := 50) (tgt := 80) C0.1 C0.2.1 dX10_feed_50 (by decide) (fun c => absurd c (by decide)) (fun _ => ?_)
                  refine lv_aload_n (pc := 53) C0.1 C0.2.1 dX10_feed_53 rfl (lv_at hl 2 rfl) ?_
                  refine xget (pc := 54) C0 hH 78 11 clX10 ⟨Nat.le_of_ble_eq_true rfl, Nat.le_of_ble_eq_true rfl⟩ ⟨rfl, rfl⟩ (Nat.le_of_ble_eq_true rfl) fl_X10_29 (v := .ref (b + 85)) rfl dX10_feed_54 ?_
                  refine lv_aload_n (pc := 57) C0.1 C0.2.1 dX10_feed_57 rfl (lv_at hl 2 rfl) ?_
                  refine xget (pc := 58) C0 hH 78 12 clX10 ⟨Nat.le_of_ble_eq_true rfl, Nat.le_of_ble_eq_true rfl⟩ ⟨rfl, rfl⟩ (Nat.le_of_ble_eq_true rfl) fl_X10_219 (v := .int 0) (congrArg Value.int hi_78_12) dX10_feed_58 ?_
                  refine lv_iload (pc := 61) C0.1 C0.2.1 dX10_feed_61 (lv_at hl 0 rfl) ?_
                  refine lv_iadd (pc := 63) C0.1 C0.2.1 dX10_feed_63 ?_
                  refine lv_topi (fun q138 eq138 => ?_)
                  obtain rfl : q138 = 4 := eq138.trans (by decide)
                  refine lv_lload_n (pc := 64) C0.1 C0.2.1 dX10_feed_64 rfl (lv_at hl 3 rfl) ?_
                  refine lv_bipush (pc := 65) (v := 8) C0.1 C0.2.1 dX10_feed_65 (by decide) ?_
                  refine lv_iload (pc := 67) C0.1 C0.2.1 dX10_feed_67 (lv_at hl 0 rfl) ?_
                  refine lv_imul (pc := 69) C0.1 C0.2.1 dX10_feed_69 ?_
                  refine lv_topi (fun q139 eq139 => ?_)
                  obtain rfl : q139 = 32 := eq139.trans (by decide)
                  obtain ⟨x140, ex140⟩ : ∃ y : Int64, y = (w.toUInt64 >>> ((32 : Int32).toInt64.toUInt64 &&& Int64.toUInt64 63)).toInt64 := ⟨_, rfl⟩
                  refine lv_lushr (pc := 70) (v := x140) C0.1 C0.2.1 dX10_feed_70 (by rw [ex140]) ?_
                  refine lv_l2i (pc := 71) (v := x140.toInt32) C0.1 C0.2.1 dX10_feed_71 rfl ?_
                  refine lv_i2b (pc := 72) (v := x140.toInt32.toInt8.toInt32) C0.1 C0.2.1 dX10_feed_72 rfl ?_
                  refine xbast (pc := 73) (N := 600) C0 (Nat.le_of_ble_eq_true rfl) hH hS 85 ⟨Nat.le_of_ble_eq_true rfl, Nat.le_of_ble_eq_true rfl⟩ ⟨rfl, rfl⟩ (vin (by decide)) dX10_feed_73 (fun _ locs hH hS => ?_)
                  have hH : Hd D tA b 78 52 zz i (va_up (va_up (va_up (va_up (va_up F 85 (upd (F 85) (Int32.toNatClampNeg 0) (Int8.toInt32 (Int32.toInt8 x128.toInt32.toInt8.toInt32)))) 85 (upd (upd (F 85) (Int32.toNatClampNeg 0) (Int8.toInt32 (Int32.toInt8 x128.toInt32.toInt8.toInt32))) (Int32.toNatClampNeg 1) (Int8.toInt32 (Int32.toInt8 x131.toInt32.toInt8.toInt32)))) 85 (upd (upd (upd (F 85) (Int32.toNatClampNeg 0) (Int8.toInt32 (Int32.toInt8 x128.toInt32.toInt8.toInt32))) (Int32.toNatClampNeg 1) (Int8.toInt32 (Int32.toInt8 x131.toInt32.toInt8.toInt32))) (Int32.toNatClampNeg 2) (Int8.toInt32 (Int32.toInt8 x134.toInt32.toInt8.toInt32)))) 85 (upd (upd (upd (upd (F 85) (Int32.toNatClampNeg 0) (Int8.toInt32 (Int32.toInt8 x128.toInt32.toInt8.toInt32))) (Int32.toNatClampNeg 1) (Int8.toInt32 (Int32.toInt8 x131.toInt32.toInt8.toInt32))) (Int32.toNatClampNeg 2) (Int8.toInt32 (Int32.toInt8 x134.toInt32.toInt8.toInt32))) (Int32.toNatClampNeg 3) (Int8.toInt32 (Int32.toInt8 x137.toInt32.toInt8.toInt32)))) 85 (upd (upd (upd (upd (upd (F 85) (Int32.toNatClampNeg 0) (Int8.toInt32 (Int32.toInt8 x128.toInt32.toInt8.toInt32))) (Int32.toNatClampNeg 1) (Int8.toInt32 (Int32.toInt8 x131.toInt32.toInt8.toInt32))) (Int32.toNatClampNeg 2) (Int8.toInt32 (Int32.toInt8 x134.toInt32.toInt8.toInt32))) (Int32.toNatClampNeg 3) (Int8.toInt32 (Int32.toInt8 x137.toInt32.toInt8.toInt32))) (Int32.toNatClampNeg 4) (Int8.toInt32 (Int32.toInt8 x140.toInt32.toInt8.toInt32)))) G _ := hH
                  refine lv_iinc (pc := 74) (v := 5) (lv' := [(4, .int 5), (3, .int 8), (0, .ref (b + 78)), (1, .long w)]) C0.1 C0.2.1 dX10_feed_74 hl (k := 0) rfl (by decide) (by decide) rfl (fun ls hl => ?_)
                  refine lv_goto (pc := 77) (tgt := 47) C0.1 C0.2.1 dX10_feed_77 (by decide) ?_
                  refine lv_iload (pc := 47) C0.1 C0.2.1 dX10_feed_47 (lv_at hl 0 rfl) ?_
                  refine lv_iload_n (pc := 49) C0.1 C0.2.1 dX10_feed_49 rfl (lv_at hl 1 rfl) ?_
                  refine lv_icmp_ge (pc := 50) (tgt := 80) C0.1 C0.2.1 dX10_feed_50 (by decide) (fun c => absurd c (by decide)) (fun _ => ?_)
                  refine lv_aload_n (pc := 53) C0.1 C0.2.1 dX10_feed_53 rfl (lv_at hl 2 rfl) ?_
                  refine xget (pc := 54) C0 hH 78 11 clX10 ⟨Nat.le_of_ble_eq_true rfl, Nat.le_of_ble_eq_true rfl⟩ ⟨rfl, rfl⟩ (Nat.le_of_ble_eq_true rfl) fl_X10_29 (v := .ref (b + 85)) rfl dX10_feed_54 ?_
                  refine lv_aload_n (pc := 57) C0.1 C0.2.1 dX10_feed_57 rfl (lv_at hl 2 rfl) ?_
                  refine xget (pc := 58) C0 hH 78 12 clX10 ⟨Nat.le_of_ble_eq_true rfl, Nat.le_of_ble_eq_true rfl⟩ ⟨rfl, rfl⟩ (Nat.le_of_ble_eq_true rfl) fl_X10_219 (v := .int 0) (congrArg Value.int hi_78_12) dX10_feed_58 ?_
                  refine lv_iload (pc := 61) C0.1 C0.2.1 dX10_feed_61 (lv_at hl 0 rfl) ?_
                  refine lv_iadd (pc := 63) C0.1 C0.2.1 dX10_feed_63 ?_
                  refine lv_topi (fun q141 eq141 => ?_)
                  obtain rfl : q141 = 5 := eq141.trans (by decide)
                  refine lv_lload_n (pc := 64) C0.1 C0.2.1 dX10_feed_64 rfl (lv_at hl 3 rfl) ?_
                  refine lv_bipush (pc := 65) (v := 8) C0.1 C0.2.1 dX10_feed_65 (by decide) ?_
                  refine lv_iload (pc := 67) C0.1 C0.2.1 dX10_feed_67 (lv_at hl 0 rfl) ?_
                  refine lv_imul (pc := 69) C0.1 C0.2.1 dX10_feed_69 ?_
                  refine lv_topi (fun q142 eq142 => ?_)
                  obtain rfl : q142 = 40 := eq142.trans (by decide)
                  obtain ⟨x143, ex143⟩ : ∃ y : Int64, y = (w.toUInt64 >>> ((40 : Int32).toInt64.toUInt64 &&& Int64.toUInt64 63)).toInt64 := ⟨_, rfl⟩
                  refine lv_lushr (pc := 70) (v := x143) C0.1 C0.2.1 dX10_feed_70 (by rw [ex143]) ?_
                  refine lv_l2i (pc := 71) (v := x143.toInt32) C0.1 C0.2.1 dX10_feed_71 rfl ?_
                  refine lv_i2b (pc := 72) (v := x143.toInt32.toInt8.toInt32) C0.1 C0.2.1 dX10_feed_72 rfl ?_
                  refine xbast (pc := 73) (N := 600) C0 (Nat.le_of_ble_eq_true rfl) hH hS 85 ⟨Nat.le_of_ble_eq_true rfl, Nat.le_of_ble_eq_true rfl⟩ ⟨rfl, rfl⟩ (vin (by decide)) dX10_feed_73 (fun _ locs hH hS => ?_)
                  have hH : Hd D tA b 78 52 zz i (va_up (va_up (va_up (va_up (va_up (va_up F 85 (upd (F 85) (Int32.toNatClampNeg 0) (Int8.toInt32 (Int32.toInt8 x128.toInt32.toInt8.toInt32)))) 85 (upd (upd (F 85) (Int32.toNatClampNeg 0) (Int8.toInt32 (Int32.toInt8 x128.toInt32.toInt8.toInt32))) (Int32.toNatClampNeg 1) (Int8.toInt32 (Int32.toInt8 x131.toInt32.toInt8.toInt32)))) 85 (upd (upd (upd (F 85) (Int32.toNatClampNeg 0) (Int8.toInt32 (Int32.toInt8 x128.toInt32.toInt8.toInt32))) (Int32.toNatClampNeg 1) (Int8.toInt32 (Int32.toInt8 x131.toInt32.toInt8.toInt32))) (Int32.toNatClampNeg 2) (Int8.toInt32 (Int32.toInt8 x134.toInt32.toInt8.toInt32)))) 85 (upd (upd (upd (upd (F 85) (Int32.toNatClampNeg 0) (Int8.toInt32 (Int32.toInt8 x128.toInt32.toInt8.toInt32))) (Int32.toNatClampNeg 1) (Int8.toInt32 (Int32.toInt8 x131.toInt32.toInt8.toInt32))) (Int32.toNatClampNeg 2) (Int8.toInt32 (Int32.toInt8 x134.toInt32.toInt8.toInt32))) (Int32.toNatClampNeg 3) (Int8.toInt32 (Int32.toInt8 x137.toInt32.toInt8.toInt32)))) 85 (upd (upd (upd (upd (upd (F 85) (Int32.toNatClampNeg 0) (Int8.toInt32 (Int32.toInt8 x128.toInt32.toInt8.toInt32))) (Int32.toNatClampNeg 1) (Int8.toInt32 (Int32.toInt8 x131.toInt32.toInt8.toInt32))) (Int32.toNatClampNeg 2) (Int8.toInt32 (Int32.toInt8 x134.toInt32.toInt8.toInt32))) (Int32.toNatClampNeg 3) (Int8.toInt32 (Int32.toInt8 x137.toInt32.toInt8.toInt32))) (Int32.toNatClampNeg 4) (Int8.toInt32 (Int32.toInt8 x140.toInt32.toInt8.toInt32)))) 85 (upd (upd (upd (upd (upd (upd (F 85) (Int32.toNatClampNeg 0) (Int8.toInt32 (Int32.toInt8 x128.toInt32.toInt8.toInt32))) (Int32.toNatClampNeg 1) (Int8.toInt32 (Int32.toInt8 x131.toInt32.toInt8.toInt32))) (Int32.toNatClampNeg 2) (Int8.toInt32 (Int32.toInt8 x134.toInt32.toInt8.toInt32))) (Int32.toNatClampNeg 3) (Int8.toInt32 (Int32.toInt8 x137.toInt32.toInt8.toInt32))) (Int32.toNatClampNeg 4) (Int8.toInt32 (Int32.toInt8 x140.toInt32.toInt8.toInt32))) (Int32.toNatClampNeg 5) (Int8.toInt32 (Int32.toInt8 x143.toInt32.toInt8.toInt32)))) G _ := hH
                  refine lv_iinc (pc := 74) (v := 6) (lv' := [(4, .int 6), (3, .int 8), (0, .ref (b + 78)), (1, .long w)]) C0.1 C0.2.1 dX10_feed_74 hl (k := 0) rfl (by decide) (by decide) rfl (fun ls hl => ?_)
                  refine lv_goto (pc := 77) (tgt := 47) C0.1 C0.2.1 dX10_feed_77 (by decide) ?_
                  refine lv_iload (pc := 47) C0.1 C0.2.1 dX10_feed_47 (lv_at hl 0 rfl) ?_
                  refine lv_iload_n (pc := 49) C0.1 C0.2.1 dX10_feed_49 rfl (lv_at hl 1 rfl) ?_
                  refine lv_icmp_ge (pc := 50) (tgt := 80) C0.1 C0.2.1 dX10_feed_50 (by decide) (fun c => absurd c (by decide)) (fun _ => ?_)
                  refine lv_aload_n (pc := 53) C0.1 C0.2.1 dX10_feed_53 rfl (lv_at hl 2 rfl) ?_
                  refine xget (pc := 54) C0 hH 78 11 clX10 ⟨Nat.le_of_ble_eq_true rfl, Nat.le_of_ble_eq_true rfl⟩ ⟨rfl, rfl⟩ (Nat.le_of_ble_eq_true rfl) fl_X10_29 (v := .ref (b + 85)) rfl dX10_feed_54 ?_
                  refine lv_aload_n (pc := 57) C0.1 C0.2.1 dX10_feed_57 rfl (lv_at hl 2 rfl) ?_
                  refine xget (pc := 58) C0 hH 78 12 clX10 ⟨Nat.le_of_ble_eq_true rfl, Nat.le_of_ble_eq_true rfl⟩ ⟨rfl, rfl⟩ (Nat.le_of_ble_eq_true rfl) fl_X10_219 (v := .int 0) (congrArg Value.int hi_78_12) dX10_feed_58 ?_
                  refine lv_iload (pc := 61) C0.1 C0.2.1 dX10_feed_61 (lv_at hl 0 rfl) ?_
                  refine lv_iadd (pc := 63) C0.1 C0.2.1 dX10_feed_63 ?_
                  refine lv_topi (fun q144 eq144 => ?_)
                  obtain rfl : q144 = 6 := eq144.trans (by decide)
                  refine lv_lload_n (pc := 64) C0.1 C0.2.1 dX10_feed_64 rfl (lv_at hl 3 rfl) ?_
                  refine lv_bipush (pc := 65) (v := 8) C0.1 C0.2.1 dX10_feed_65 (by decide) ?_
                  refine lv_iload (pc := 67) C0.1 C0.2.1 dX10_feed_67 (lv_at hl 0 rfl) ?_
                  refine lv_imul (pc := 69) C0.1 C0.2.1 dX10_feed_69 ?_
                  refine lv_topi (fun q145 eq145 => ?_)
                  obtain rfl : q145 = 48 := eq145.trans (by decide)
                  obtain ⟨x146, ex146⟩ : ∃ y : Int64, y = (w.toUInt64 >>> ((48 : Int32).toInt64.toUInt64 &&& Int64.toUInt64 63)).toInt64 := ⟨_, rfl⟩
                  refine lv_lushr (pc := 70) (v := x146) C0.1 C0.2.1 dX10_feed_70 (by rw [ex146]) ?_
                  refine lv_l2i (pc := 71) (v := x146.toInt32) C0.1 C0.2.1 dX10_feed_71 rfl ?_
                  refine lv_i2b (pc := 72) (v := x146.toInt32.toInt8.toInt32) C0.1 C0.2.1 dX10_feed_72 rfl ?_
                  refine xbast (pc := 73) (N := 600) C0 (Nat.le_of_ble_eq_true rfl) hH hS 85 ⟨Nat.le_of_ble_eq_true rfl, Nat.le_of_ble_eq_true rfl⟩ ⟨rfl, rfl⟩ (vin (by decide)) dX10_feed_73 (fun _ locs hH hS => ?_)
                  have hH : Hd D tA b 78 52 zz i (va_up (va_up (va_up (va_up (va_up (va_up (va_up F 85 (upd (F 85) (Int32.toNatClampNeg 0) (Int8.toInt32 (Int32.toInt8 x128.toInt32.toInt8.toInt32)))) 85 (upd (upd (F 85) (Int32.toNatClampNeg 0) (Int8.toInt32 (Int32.toInt8 x128.toInt32.toInt8.toInt32))) (Int32.toNatClampNeg 1) (Int8.toInt32 (Int32.toInt8 x131.toInt32.toInt8.toInt32)))) 85 (upd (upd (upd (F 85) (Int32.toNatClampNeg 0) (Int8.toInt32 (Int32.toInt8 x128.toInt32.toInt8.toInt32))) (Int32.toNatClampNeg 1) (Int8.toInt32 (Int32.toInt8 x131.toInt32.toInt8.toInt32))) (Int32.toNatClampNeg 2) (Int8.toInt32 (Int32.toInt8 x134.toInt32.toInt8.toInt32)))) 85 (upd (upd (upd (upd (F 85) (Int32.toNatClampNeg 0) (Int8.toInt32 (Int32.toInt8 x128.toInt32.toInt8.toInt32))) (Int32.toNatClampNeg 1) (Int8.toInt32 (Int32.toInt8 x131.toInt32.toInt8.toInt32))) (Int32.toNatClampNeg 2) (Int8.toInt32 (Int32.toInt8 x134.toInt32.toInt8.toInt32))) (Int32.toNatClampNeg 3) (Int8.toInt32 (Int32.toInt8 x137.toInt32.toInt8.toInt32)))) 85 (upd (upd (upd (upd (upd (F 85) (Int32.toNatClampNeg 0) (Int8.toInt32 (Int32.toInt8 x128.toInt32.toInt8.toInt32))) (Int32.toNatClampNeg 1) (Int8.toInt32 (Int32.toInt8 x131.toInt32.toInt8.toInt32))) (Int32.toNatClampNeg 2) (Int8.toInt32 (Int32.toInt8 x134.toInt32.toInt8.toInt32))) (Int32.toNatClampNeg 3) (Int8.toInt32 (Int32.toInt8 x137.toInt32.toInt8.toInt32))) (Int32.toNatClampNeg 4) (Int8.toInt32 (Int32.toInt8 x140.toInt32.toInt8.toInt32)))) 85 (upd (upd (upd (upd (upd (upd (F 85) (Int32.toNatClampNeg 0) (Int8.toInt32 (Int32.toInt8 x128.toInt32.toInt8.toInt32))) (Int32.toNatClampNeg 1) (Int8.toInt32 (Int32.toInt8 x131.toInt32.toInt8.toInt32))) (Int32.toNatClampNeg 2) (Int8.toInt32 (Int32.toInt8 x134.toInt32.toInt8.toInt32))) (Int32.toNatClampNeg 3) (Int8.toInt32 (Int32.toInt8 x137.toInt32.toInt8.toInt32))) (Int32.toNatClampNeg 4) (Int8.toInt32 (Int32.toInt8 x140.toInt32.toInt8.toInt32))) (Int32.toNatClampNeg 5) (Int8.toInt32 (Int32.toInt8 x143.toInt32.toInt8.toInt32)))) 85 (upd (upd (upd (upd (upd (upd (upd (F 85) (Int32.toNatClampNeg 0) (Int8.toInt32 (Int32.toInt8 x128.toInt32.toInt8.toInt32))) (Int32.toNatClampNeg 1) (Int8.toInt32 (Int32.toInt8 x131.toInt32.toInt8.toInt32))) (Int32.toNatClampNeg 2) (Int8.toInt32 (Int32.toInt8 x134.toInt32.toInt8.toInt32))) (Int32.toNatClampNeg 3) (Int8.toInt32 (Int32.toInt8 x137.toInt32.toInt8.toInt32))) (Int32.toNatClampNeg 4) (Int8.toInt32 (Int32.toInt8 x140.toInt32.toInt8.toInt32))) (Int32.toNatClampNeg 5) (Int8.toInt32 (Int32.toInt8 x143.toInt32.toInt8.toInt32))) (Int32.toNatClampNeg 6) (Int8.toInt32 (Int32.toInt8 x146.toInt32.toInt8.toInt32)))) G _ := hH
                  refine lv_iinc (pc := 74) (v := 7) (lv' := [(4, .int 7), (3, .int 8), (0, .ref (b + 78)), (1, .long w)]) C0.1 C0.2.1 dX10_feed_74 hl (k := 0) rfl (by decide) (by decide) rfl (fun ls hl => ?_)
                  refine lv_goto (pc := 77) (tgt := 47) C0.1 C0.2.1 dX10_feed_77 (by decide) ?_
                  refine lv_iload (pc := 47) C0.1 C0.2.1 dX10_feed_47 (lv_at hl 0 rfl) ?_
                  refine lv_iload_n (pc := 49) C0.1 C0.2.1 dX10_feed_49 rfl (lv_at hl 1 rfl) ?_
                  refine lv_icmp_ge (pc := 50) (tgt := 80) C0.1 C0.2.1 dX10_feed_50 (by decide) (fun c => absurd c (by decide)) (fun _ => ?_)
                  refine lv_aload_n (pc := 53) C0.1 C0.2.1 dX10_feed_53 rfl (lv_at hl 2 rfl) ?_
                  refine xget (pc := 54) C0 hH 78 11 clX10 ⟨Nat.le_of_ble_eq_true rfl, Nat.le_of_ble_eq_true rfl⟩ ⟨rfl, rfl⟩ (Nat.le_of_ble_eq_true rfl) fl_X10_29 (v := .ref (b + 85)) rfl dX10_feed_54 ?_
                  refine lv_aload_n (pc := 57) C0.1 C0.2.1 dX10_feed_57 rfl (lv_at hl 2 rfl) ?_
                  refine xget (pc := 58) C0 hH 78 12 clX10 ⟨Nat.le_of_ble_eq_true rfl, Nat.le_of_ble_eq_true rfl⟩ ⟨rfl, rfl⟩ (Nat.le_of_ble_eq_true rfl) fl_X10_219 (v := .int 0) (congrArg Value.int hi_78_12) dX10_feed_58 ?_
                  refine lv_iload (pc := 61) C0.1 C0.2.1 dX10_feed_61 (lv_at hl 0 rfl) ?_
                  refine lv_iadd (pc := 63) C0.1 C0.2.1 dX10_feed_63 ?_
                  refine lv_topi (fun q147 eq147 => ?_)
                  obtain rfl : q147 = 7 := eq147.trans (by decide)
                  refine lv_lload_n (pc := 64) C0.1 C0.2.1 dX10_feed_64 rfl (lv_at hl 3 rfl) ?_
                  refine lv_bipush (pc := 65) (v := 8) C0.1 C0.2.1 dX10_feed_65 (by decide) ?_
                  refine lv_iload (pc := 67) C0.1 C0.2.1 dX10_feed_67 (lv_at hl 0 rfl) ?_
                  refine lv_imul (pc := 69) C0.1 C0.2.1 dX10_feed_69 ?_
                  refine lv_topi (fun q148 eq148 => ?_)
                  obtain rfl : q148 = 56 := eq148.trans (by decide)
                  obtain ⟨x149, ex149⟩ : ∃ y : Int64, y = (w.toUInt64 >>> ((56 : Int32).toInt64.toUInt64 &&& Int64.toUInt64 63)).toInt64 := ⟨_, rfl⟩
                  refine lv_lushr (pc := 70) (v := x149) C0.1 C0.2.1 dX10_feed_70 (by rw [ex149]) ?_
                  refine lv_l2i (pc := 71) (v := x149.toInt32) C0.1 C0.2.1 dX10_feed_71 rfl ?_
                  refine lv_i2b (pc := 72) (v := x149.toInt32.toInt8.toInt32) C0.1 C0.2.1 dX10_feed_72 rfl ?_
                  refine xbast (pc := 73) (N := 600) C0 (Nat.le_of_ble_eq_true rfl) hH hS 85 ⟨Nat.le_of_ble_eq_true rfl, Nat.le_of_ble_eq_true rfl⟩ ⟨rfl, rfl⟩ (vin (by decide)) dX10_feed_73 (fun _ locs hH hS => ?_)
                  have hH : Hd D tA b 78 52 zz i (va_up (va_up (va_up (va_up (va_up (va_up (va_up (va_up F 85 (upd (F 85) (Int32.toNatClampNeg 0) (Int8.toInt32 (Int32.toInt8 x128.toInt32.toInt8.toInt32)))) 85 (upd (upd (F 85) (Int32.toNatClampNeg 0) (Int8.toInt32 (Int32.toInt8 x128.toInt32.toInt8.toInt32))) (Int32.toNatClampNeg 1) (Int8.toInt32 (Int32.toInt8 x131.toInt32.toInt8.toInt32)))) 85 (upd (upd (upd (F 85) (Int32.toNatClampNeg 0) (Int8.toInt32 (Int32.toInt8 x128.toInt32.toInt8.toInt32))) (Int32.toNatClampNeg 1) (Int8.toInt32 (Int32.toInt8 x131.toInt32.toInt8.toInt32))) (Int32.toNatClampNeg 2) (Int8.toInt32 (Int32.toInt8 x134.toInt32.toInt8.toInt32)))) 85 (upd (upd (upd (upd (F 85) (Int32.toNatClampNeg 0) (Int8.toInt32 (Int32.toInt8 x128.toInt32.toInt8.toInt32))) (Int32.toNatClampNeg 1) (Int8.toInt32 (Int32.toInt8 x131.toInt32.toInt8.toInt32))) (Int32.toNatClampNeg 2) (Int8.toInt32 (Int32.toInt8 x134.toInt32.toInt8.toInt32))) (Int32.toNatClampNeg 3) (Int8.toInt32 (Int32.toInt8 x137.toInt32.toInt8.toInt32)))) 85 (upd (upd (upd (upd (upd (F 85) (Int32.toNatClampNeg 0) (Int8.toInt32 (Int32.toInt8 x128.toInt32.toInt8.toInt32))) (Int32.toNatClampNeg 1) (Int8.toInt32 (Int32.toInt8 x131.toInt32.toInt8.toInt32))) (Int32.toNatClampNeg 2) (Int8.toInt32 (Int32.toInt8 x134.toInt32.toInt8.toInt32))) (Int32.toNatClampNeg 3) (Int8.toInt32 (Int32.toInt8 x137.toInt32.toInt8.toInt32))) (Int32.toNatClampNeg 4) (Int8.toInt32 (Int32.toInt8 x140.toInt32.toInt8.toInt32)))) 85 (upd (upd (upd (upd (upd (upd (F 85) (Int32.toNatClampNeg 0) (Int8.toInt32 (Int32.toInt8 x128.toInt32.toInt8.toInt32))) (Int32.toNatClampNeg 1) (Int8.toInt32 (Int32.toInt8 x131.toInt32.toInt8.toInt32))) (Int32.toNatClampNeg 2) (Int8.toInt32 (Int32.toInt8 x134.toInt32.toInt8.toInt32))) (Int32.toNatClampNeg 3) (Int8.toInt32 (Int32.toInt8 x137.toInt32.toInt8.toInt32))) (Int32.toNatClampNeg 4) (Int8.toInt32 (Int32.toInt8 x140.toInt32.toInt8.toInt32))) (Int32.toNatClampNeg 5) (Int8.toInt32 (Int32.toInt8 x143.toInt32.toInt8.toInt32)))) 85 (upd (upd (upd (upd (upd (upd (upd (F 85) (Int32.toNatClampNeg 0) (Int8.toInt32 (Int32.toInt8 x128.toInt32.toInt8.toInt32))) (Int32.toNatClampNeg 1) (Int8.toInt32 (Int32.toInt8 x131.toInt32.toInt8.toInt32))) (Int32.toNatClampNeg 2) (Int8.toInt32 (Int32.toInt8 x134.toInt32.toInt8.toInt32))) (Int32.toNatClampNeg 3) (Int8.toInt32 (Int32.toInt8 x137.toInt32.toInt8.toInt32))) (Int32.toNatClampNeg 4) (Int8.toInt32 (Int32.toInt8 x140.toInt32.toInt8.toInt32))) (Int32.toNatClampNeg 5) (Int8.toInt32 (Int32.toInt8 x143.toInt32.toInt8.toInt32))) (Int32.toNatClampNeg 6) (Int8.toInt32 (Int32.toInt8 x146.toInt32.toInt8.toInt32)))) 85 (upd (upd (upd (upd (upd (upd (upd (upd (F 85) (Int32.toNatClampNeg 0) (Int8.toInt32 (Int32.toInt8 x128.toInt32.toInt8.toInt32))) (Int32.toNatClampNeg 1) (Int8.toInt32 (Int32.toInt8 x131.toInt32.toInt8.toInt32))) (Int32.toNatClampNeg 2) (Int8.toInt32 (Int32.toInt8 x134.toInt32.toInt8.toInt32))) (Int32.toNatClampNeg 3) (Int8.toInt32 (Int32.toInt8 x137.toInt32.toInt8.toInt32))) (Int32.toNatClampNeg 4) (Int8.toInt32 (Int32.toInt8 x140.toInt32.toInt8.toInt32))) (Int32.toNatClampNeg 5) (Int8.toInt32 (Int32.toInt8 x143.toInt32.toInt8.toInt32))) (Int32.toNatClampNeg 6) (Int8.toInt32 (Int32.toInt8 x146.toInt32.toInt8.toInt32))) (Int32.toNatClampNeg 7) (Int8.toInt32 (Int32.toInt8 x149.toInt32.toInt8.toInt32)))) G _ := hH
                  refine lv_iinc (pc := 74) (v := 8) (lv' := [(4, .int 8), (3, .int 8), (0, .ref (b + 78)), (1, .long w)]) C0.1 C0.2.1 dX10_feed_74 hl (k := 0) rfl (by decide) (by decide) rfl (fun ls hl => ?_)
                  refine lv_goto (pc := 77) (tgt := 47) C0.1 C0.2.1 dX10_feed_77 (by decide) ?_
                  refine lv_iload (pc := 47) C0.1 C0.2.1 dX10_feed_47 (lv_at hl 0 rfl) ?_
                  refine lv_iload_n (pc := 49) C0.1 C0.2.1 dX10_feed_49 rfl (lv_at hl 1 rfl) ?_
                  refine lv_icmp_ge (pc := 50) (tgt := 80) C0.1 C0.2.1 dX10_feed_50 (by decide) (fun _ => ?_) (fun c => absurd (by decide) c)
                  refine lv_aload_n (pc := 80) C0.1 C0.2.1 dX10_feed_80 rfl (lv_at hl 2 rfl) ?_
                  refine lv_dup (pc := 81) C0.1 C0.2.1 dX10_feed_81 rfl ?_
                  refine xget (pc := 82) C0 hH 78 12 clX10 ⟨Nat.le_of_ble_eq_true rfl, Nat.le_of_ble_eq_true rfl⟩ ⟨rfl, rfl⟩ (Nat.le_of_ble_eq_true rfl) fl_X10_219 (v := .int 0) (congrArg Value.int hi_78_12) dX10_feed_82 ?_
                  refine lv_iload_n (pc := 85) C0.1 C0.2.1 dX10_feed_85 rfl (lv_at hl 1 rfl) ?_
                  refine lv_iadd (pc := 86) C0.1 C0.2.1 dX10_feed_86 ?_
                  refine lv_topi (fun q150 eq150 => ?_)
                  obtain rfl : q150 = 8 := eq150.trans (by decide)
                  refine xputI (pc := 87) C0 (Nat.le_of_ble_eq_true rfl) hH hS 78 12 clX10 ⟨Nat.le_of_ble_eq_true rfl, Nat.le_of_ble_eq_true rfl⟩ ⟨rfl, rfl⟩ ⟨Nat.le_of_ble_eq_true rfl, rfl, rfl⟩ fl_X10_219 (x := 8) ⟨rfl, rfl⟩ dX10_feed_87 (fun _ locs hH hS _ => ?_)
                  have hH : Hd D tA b 78 52 zz (up2 i 78 12 8) (va_up (va_up (va_up (va_up (va_up (va_up (va_up (va_up F 85 (upd (F 85) (Int32.toNatClampNeg 0) (Int8.toInt32 (Int32.toInt8 x128.toInt32.toInt8.toInt32)))) 85 (upd (upd (F 85) (Int32.toNatClampNeg 0) (Int8.toInt32 (Int32.toInt8 x128.toInt32.toInt8.toInt32))) (Int32.toNatClampNeg 1) (Int8.toInt32 (Int32.toInt8 x131.toInt32.toInt8.toInt32)))) 85 (upd (upd (upd (F 85) (Int32.toNatClampNeg 0) (Int8.toInt32 (Int32.toInt8 x128.toInt32.toInt8.toInt32))) (Int32.toNatClampNeg 1) (Int8.toInt32 (Int32.toInt8 x131.toInt32.toInt8.toInt32))) (Int32.toNatClampNeg 2) (Int8.toInt32 (Int32.toInt8 x134.toInt32.toInt8.toInt32)))) 85 (upd (upd (upd (upd (F 85) (Int32.toNatClampNeg 0) (Int8.toInt32 (Int32.toInt8 x128.toInt32.toInt8.toInt32))) (Int32.toNatClampNeg 1) (Int8.toInt32 (Int32.toInt8 x131.toInt32.toInt8.toInt32))) (Int32.toNatClampNeg 2) (Int8.toInt32 (Int32.toInt8 x134.toInt32.toInt8.toInt32))) (Int32.toNatClampNeg 3) (Int8.toInt32 (Int32.toInt8 x137.toInt32.toInt8.toInt32)))) 85 (upd (upd (upd (upd (upd (F 85) (Int32.toNatClampNeg 0) (Int8.toInt32 (Int32.toInt8 x128.toInt32.toInt8.toInt32))) (Int32.toNatClampNeg 1) (Int8.toInt32 (Int32.toInt8 x131.toInt32.toInt8.toInt32))) (Int32.toNatClampNeg 2) (Int8.toInt32 (Int32.toInt8 x134.toInt32.toInt8.toInt32))) (Int32.toNatClampNeg 3) (Int8.toInt32 (Int32.toInt8 x137.toInt32.toInt8.toInt32))) (Int32.toNatClampNeg 4) (Int8.toInt32 (Int32.toInt8 x140.toInt32.toInt8.toInt32)))) 85 (upd (upd (upd (upd (upd (upd (F 85) (Int32.toNatClampNeg 0) (Int8.toInt32 (Int32.toInt8 x128.toInt32.toInt8.toInt32))) (Int32.toNatClampNeg 1) (Int8.toInt32 (Int32.toInt8 x131.toInt32.toInt8.toInt32))) (Int32.toNatClampNeg 2) (Int8.toInt32 (Int32.toInt8 x134.toInt32.toInt8.toInt32))) (Int32.toNatClampNeg 3) (Int8.toInt32 (Int32.toInt8 x137.toInt32.toInt8.toInt32))) (Int32.toNatClampNeg 4) (Int8.toInt32 (Int32.toInt8 x140.toInt32.toInt8.toInt32))) (Int32.toNatClampNeg 5) (Int8.toInt32 (Int32.toInt8 x143.toInt32.toInt8.toInt32)))) 85 (upd (upd (upd (upd (upd (upd (upd (F 85) (Int32.toNatClampNeg 0) (Int8.toInt32 (Int32.toInt8 x128.toInt32.toInt8.toInt32))) (Int32.toNatClampNeg 1) (Int8.toInt32 (Int32.toInt8 x131.toInt32.toInt8.toInt32))) (Int32.toNatClampNeg 2) (Int8.toInt32 (Int32.toInt8 x134.toInt32.toInt8.toInt32))) (Int32.toNatClampNeg 3) (Int8.toInt32 (Int32.toInt8 x137.toInt32.toInt8.toInt32))) (Int32.toNatClampNeg 4) (Int8.toInt32 (Int32.toInt8 x140.toInt32.toInt8.toInt32))) (Int32.toNatClampNeg 5) (Int8.toInt32 (Int32.toInt8 x143.toInt32.toInt8.toInt32))) (Int32.toNatClampNeg 6) (Int8.toInt32 (Int32.toInt8 x146.toInt32.toInt8.toInt32)))) 85 (upd (upd (upd (upd (upd (upd (upd (upd (F 85) (Int32.toNatClampNeg 0) (Int8.toInt32 (Int32.toInt8 x128.toInt32.toInt8.toInt32))) (Int32.toNatClampNeg 1) (Int8.toInt32 (Int32.toInt8 x131.toInt32.toInt8.toInt32))) (Int32.toNatClampNeg 2) (Int8.toInt32 (Int32.toInt8 x134.toInt32.toInt8.toInt32))) (Int32.toNatClampNeg 3) (Int8.toInt32 (Int32.toInt8 x137.toInt32.toInt8.toInt32))) (Int32.toNatClampNeg 4) (Int8.toInt32 (Int32.toInt8 x140.toInt32.toInt8.toInt32))) (Int32.toNatClampNeg 5) (Int8.toInt32 (Int32.toInt8 x143.toInt32.toInt8.toInt32))) (Int32.toNatClampNeg 6) (Int8.toInt32 (Int32.toInt8 x146.toInt32.toInt8.toInt32))) (Int32.toNatClampNeg 7) (Int8.toInt32 (Int32.toInt8 x149.toInt32.toInt8.toInt32)))) G _ := hH
                  refine lv_aload_n (pc := 90) C0.1 C0.2.1 dX10_feed_90 rfl (lv_at hl 2 rfl) ?_
                  refine lv_iconst (pc := 91) (v := 0) C0.1 C0.2.1 dX10_feed_91 (by decide) ?_
                  refine xputI (pc := 92) C0 (Nat.le_of_ble_eq_true rfl) hH hS 78 15 clX10 ⟨Nat.le_of_ble_eq_true rfl, Nat.le_of_ble_eq_true rfl⟩ ⟨rfl, rfl⟩ ⟨Nat.le_of_ble_eq_true rfl, rfl, rfl⟩ fl_X10_211 (x := 0) ⟨rfl, rfl⟩ dX10_feed_92 (fun _ locs hH hS _ => ?_)
                  have hH : Hd D tA b 78 52 zz (up2 (up2 i 78 12 8) 78 15 0) (va_up (va_up (va_up (va_up (va_up (va_up (va_up (va_up F 85 (upd (F 85) (Int32.toNatClampNeg 0) (Int8.toInt32 (Int32.toInt8 x128.toInt32.toInt8.toInt32)))) 85 (upd (upd (F 85) (Int32.toNatClampNeg 0) (Int8.toInt32 (Int32.toInt8 x128.toInt32.toInt8.toInt32))) (Int32.toNatClampNeg 1) (Int8.toInt32 (Int32.toInt8 x131.toInt32.toInt8.toInt32)))) 85 (upd (upd (upd (F 85) (Int32.toNatClampNeg 0) (Int8.toInt32 (Int32.toInt8 x128.toInt32.toInt8.toInt32))) (Int32.toNatClampNeg 1) (Int8.toInt32 (Int32.toInt8 x131.toInt32.toInt8.toInt32))) (Int32.toNatClampNeg 2) (Int8.toInt32 (Int32.toInt8 x134.toInt32.toInt8.toInt32)))) 85 (upd (upd (upd (upd (F 85) (Int32.toNatClampNeg 0) (Int8.toInt32 (Int32.toInt8 x128.toInt32.toInt8.toInt32))) (Int32.toNatClampNeg 1) (Int8.toInt32 (Int32.toInt8 x131.toInt32.toInt8.toInt32))) (Int32.toNatClampNeg 2) (Int8.toInt32 (Int32.toInt8 x134.toInt32.toInt8.toInt32))) (Int32.toNatClampNeg 3) (Int8.toInt32 (Int32.toInt8 x137.toInt32.toInt8.toInt32)))) 85 (upd (upd (upd (upd (upd (F 85) (Int32.toNatClampNeg 0) (Int8.toInt32 (Int32.toInt8 x128.toInt32.toInt8.toInt32))) (Int32.toNatClampNeg 1) (Int8.toInt32 (Int32.toInt8 x131.toInt32.toInt8.toInt32))) (Int32.toNatClampNeg 2) (Int8.toInt32 (Int32.toInt8 x134.toInt32.toInt8.toInt32))) (Int32.toNatClampNeg 3) (Int8.toInt32 (Int32.toInt8 x137.toInt32.toInt8.toInt32))) (Int32.toNatClampNeg 4) (Int8.toInt32 (Int32.toInt8 x140.toInt32.toInt8.toInt32)))) 85 (upd (upd (upd (upd (upd (upd (F 85) (Int32.toNatClampNeg 0) (Int8.toInt32 (Int32.toInt8 x128.toInt32.toInt8.toInt32))) (Int32.toNatClampNeg 1) (Int8.toInt32 (Int32.toInt8 x131.toInt32.toInt8.toInt32))) (Int32.toNatClampNeg 2) (Int8.toInt32 (Int32.toInt8 x134.toInt32.toInt8.toInt32))) (Int32.toNatClampNeg 3) (Int8.toInt32 (Int32.toInt8 x137.toInt32.toInt8.toInt32))) (Int32.toNatClampNeg 4) (Int8.toInt32 (Int32.toInt8 x140.toInt32.toInt8.toInt32))) (Int32.toNatClampNeg 5) (Int8.toInt32 (Int32.toInt8 x143.toInt32.toInt8.toInt32)))) 85 (upd (upd (upd (upd (upd (upd (upd (F 85) (Int32.toNatClampNeg 0) (Int8.toInt32 (Int32.toInt8 x128.toInt32.toInt8.toInt32))) (Int32.toNatClampNeg 1) (Int8.toInt32 (Int32.toInt8 x131.toInt32.toInt8.toInt32))) (Int32.toNatClampNeg 2) (Int8.toInt32 (Int32.toInt8 x134.toInt32.toInt8.toInt32))) (Int32.toNatClampNeg 3) (Int8.toInt32 (Int32.toInt8 x137.toInt32.toInt8.toInt32))) (Int32.toNatClampNeg 4) (Int8.toInt32 (Int32.toInt8 x140.toInt32.toInt8.toInt32))) (Int32.toNatClampNeg 5) (Int8.toInt32 (Int32.toInt8 x143.toInt32.toInt8.toInt32))) (Int32.toNatClampNeg 6) (Int8.toInt32 (Int32.toInt8 x146.toInt32.toInt8.toInt32)))) 85 (upd (upd (upd (upd (upd (upd (upd (upd (F 85) (Int32.toNatClampNeg 0) (Int8.toInt32 (Int32.toInt8 x128.toInt32.toInt8.toInt32))) (Int32.toNatClampNeg 1) (Int8.toInt32 (Int32.toInt8 x131.toInt32.toInt8.toInt32))) (Int32.toNatClampNeg 2) (Int8.toInt32 (Int32.toInt8 x134.toInt32.toInt8.toInt32))) (Int32.toNatClampNeg 3) (Int8.toInt32 (Int32.toInt8 x137.toInt32.toInt8.toInt32))) (Int32.toNatClampNeg 4) (Int8.toInt32 (Int32.toInt8 x140.toInt32.toInt8.toInt32))) (Int32.toNatClampNeg 5) (Int8.toInt32 (Int32.toInt8 x143.toInt32.toInt8.toInt32))) (Int32.toNatClampNeg 6) (Int8.toInt32 (Int32.toInt8 x146.toInt32.toInt8.toInt32))) (Int32.toNatClampNeg 7) (Int8.toInt32 (Int32.toInt8 x149.toInt32.toInt8.toInt32)))) G _ := hH
                  refine lv_aload_n (pc := 95) C0.1 C0.2.1 dX10_feed_95 rfl (lv_at hl 2 rfl) ?_
                  refine xget (pc := 96) C0 hH 78 12 clX10 ⟨Nat.le_of_ble_eq_true rfl, Nat.le_of_ble_eq_true rfl⟩ ⟨rfl, rfl⟩ (Nat.le_of_ble_eq_true rfl) fl_X10_219 (v := .int 8) rfl dX10_feed_96 ?_
                  exact xiret (pc := 99) C0 hr hH hS dX10_feed_99 (by rw [show zl w = 8 from by unfold zl; simp only [z0, z1, z2, z3, z4, z5, z6, z7, if_true, if_false]]; rfl)
