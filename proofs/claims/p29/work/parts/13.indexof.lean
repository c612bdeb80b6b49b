set_option maxRecDepth 20000 in
theorem fs_J0_38 : Cond.fieldLink RJ0 38 "java/lang/String" "COMPACT_STRINGS" "Z" ∈ WALL := wm 458 (by decide +kernel) rfl
set_option maxRecDepth 20000 in
theorem fs_J0_15 : Cond.fieldLink RJ0 15 "java/lang/String" "coder" "B" ∈ WALL := wm 1603 (by decide +kernel) rfl
set_option maxRecDepth 20000 in
theorem fs_J0_9 : Cond.fieldLink RJ0 9 "java/lang/String" "value" "[B" ∈ WALL := wm 1604 (by decide +kernel) rfl
set_option maxRecDepth 20000 in
theorem cw_J0_335 : CwV RJ0 335 yJ0_coder_7d493 cJ0_coder_7d493 1 (some .byte) 0 := ⟨wm 464 (by decide +kernel) rfl, wm 465 (by decide +kernel) rfl, wm 466 (by decide +kernel) rfl, wm 12 (by decide +kernel) rfl, wm 467 rfl rfl, by decide +kernel⟩
set_option maxRecDepth 20000 in
theorem cw_J1_88 : CwS RJ1 88 yJ1_canEncode_9a6ad cJ1_canEncode_9a6ad 1 (some .boolean) 1 := ⟨wm 471 (by decide +kernel) rfl, wm 472 (by decide +kernel) rfl, wm 13 (by decide +kernel) rfl, wm 473 rfl rfl, by decide +kernel⟩
set_option maxRecDepth 20000 in
theorem mm_J1_92 : Cond.methodLink RJ1 92 Lib.Math.max.name ∈ WALL ∧ Cond.static Lib.Math.max.name ∈ WALL ∧ Cond.initialized "java/lang/Math" ∈ WALL ∧ Cond.code Lib.Math.max.name Lib.Math.max.code 2 (some .int) ∈ WALL := ⟨wm 474 (by decide +kernel) rfl, wm 475 (by decide +kernel) rfl, wm 14 (by decide +kernel) rfl, wm 476 rfl rfl⟩
set_option maxRecDepth 20000 in
theorem mm_J1_38 : Cond.methodLink RJ1 38 Lib.Math.min.name ∈ WALL ∧ Cond.static Lib.Math.min.name ∈ WALL ∧ Cond.initialized "java/lang/Math" ∈ WALL ∧ Cond.code Lib.Math.min.name Lib.Math.min.code 2 (some .int) ∈ WALL := ⟨wm 477 (by decide +kernel) rfl, wm 478 (by decide +kernel) rfl, wm 14 (by decide +kernel) rfl, wm 479 rfl rfl⟩
set_option maxRecDepth 20000 in
theorem cw_J1_95 : CwS RJ1 95 yJ1_indexOfChar_4cfef cJ1_indexOfChar_4cfef 6 (some .int) 4 := ⟨wm 480 (by decide +kernel) rfl, wm 481 (by decide +kernel) rfl, wm 13 (by decide +kernel) rfl, wm 482 rfl rfl, by decide +kernel⟩
set_option maxRecDepth 20000 in
theorem cw_J0_492 : CwV RJ0 492 yJ0_isLatin1_aae02 cJ0_isLatin1_aae02 1 (some .boolean) 0 := ⟨wm 454 (by decide +kernel) rfl, wm 455 (by decide +kernel) rfl, wm 456 (by decide +kernel) rfl, wm 12 (by decide +kernel) rfl, wm 457 rfl rfl, by decide +kernel⟩
set_option maxRecDepth 20000 in
theorem cw_J0_505 : CwV RJ0 505 yJ0_length_8abf5 cJ0_length_8abf5 1 (some .int) 0 := ⟨wm 460 (by decide +kernel) rfl, wm 461 (by decide +kernel) rfl, wm 462 (by decide +kernel) rfl, wm 12 (by decide +kernel) rfl, wm 463 rfl rfl, by decide +kernel⟩
set_option maxRecDepth 20000 in
theorem cw_J0_637 : CwS RJ0 637 yJ1_indexOf_4cfef cJ1_indexOf_4cfef 4 (some .int) 4 := ⟨wm 468 (by decide +kernel) rfl, wm 469 (by decide +kernel) rfl, wm 13 (by decide +kernel) rfl, wm 470 rfl rfl, by decide +kernel⟩
set_option maxRecDepth 20000 in
theorem cw_J0_633 : CwV RJ0 633 yJ0_indexOf_7cf53 cJ0_indexOf_7cf53 3 (some .int) 2 := ⟨wm 450 (by decide +kernel) rfl, wm 451 (by decide +kernel) rfl, wm 452 (by decide +kernel) rfl, wm 12 (by decide +kernel) rfl, wm 453 rfl rfl, by decide +kernel⟩
theorem dJ0_isLatin1_aae02_0 : decode cJ0_isLatin1_aae02 0 = .ok (.getstatic 38, 3) := by decide +kernel
theorem dJ0_isLatin1_aae02_3 : decode cJ0_isLatin1_aae02 3 = .ok (.ifCond .eq 14, 3) := by decide +kernel
theorem dJ0_isLatin1_aae02_6 : decode cJ0_isLatin1_aae02 6 = .ok (.aload_n 0, 1) := by decide +kernel
theorem dJ0_isLatin1_aae02_7 : decode cJ0_isLatin1_aae02 7 = .ok (.getfield 15, 3) := by decide +kernel
theorem dJ0_isLatin1_aae02_10 : decode cJ0_isLatin1_aae02 10 = .ok (.ifCond .ne 7, 3) := by decide +kernel
theorem dJ0_isLatin1_aae02_13 : decode cJ0_isLatin1_aae02 13 = .ok (.iconst 1, 1) := by decide +kernel
theorem dJ0_isLatin1_aae02_14 : decode cJ0_isLatin1_aae02 14 = .ok (.goto 4, 3) := by decide +kernel
theorem dJ0_isLatin1_aae02_18 : decode cJ0_isLatin1_aae02 18 = .ok (.ireturn, 1) := by decide +kernel
theorem dJ0_coder_7d493_0 : decode cJ0_coder_7d493 0 = .ok (.getstatic 38, 3) := by decide +kernel
theorem dJ0_coder_7d493_3 : decode cJ0_coder_7d493 3 = .ok (.ifCond .eq 10, 3) := by decide +kernel
theorem dJ0_coder_7d493_6 : decode cJ0_coder_7d493 6 = .ok (.aload_n 0, 1) := by decide +kernel
theorem dJ0_coder_7d493_7 : decode cJ0_coder_7d493 7 = .ok (.getfield 15, 3) := by decide +kernel
theorem dJ0_coder_7d493_10 : decode cJ0_coder_7d493 10 = .ok (.goto 4, 3) := by decide +kernel
theorem dJ0_coder_7d493_14 : decode cJ0_coder_7d493 14 = .ok (.ireturn, 1) := by decide +kernel
theorem dJ0_length_8abf5_0 : decode cJ0_length_8abf5 0 = .ok (.aload_n 0, 1) := by decide +kernel
theorem dJ0_length_8abf5_1 : decode cJ0_length_8abf5 1 = .ok (.getfield 9, 3) := by decide +kernel
theorem dJ0_length_8abf5_4 : decode cJ0_length_8abf5 4 = .ok (.arraylength, 1) := by decide +kernel
theorem dJ0_length_8abf5_5 : decode cJ0_length_8abf5 5 = .ok (.aload_n 0, 1) := by decide +kernel
theorem dJ0_length_8abf5_6 : decode cJ0_length_8abf5 6 = .ok (.invokevirtual 335, 3) := by decide +kernel
theorem dJ0_length_8abf5_9 : decode cJ0_length_8abf5 9 = .ok (.ishr, 1) := by decide +kernel
theorem dJ0_length_8abf5_10 : decode cJ0_length_8abf5 10 = .ok (.ireturn, 1) := by decide +kernel
theorem dJ1_canEncode_9a6ad_0 : decode cJ1_canEncode_9a6ad 0 = .ok (.iload_n 0, 1) := by decide +kernel
theorem dJ1_canEncode_9a6ad_1 : decode cJ1_canEncode_9a6ad 1 = .ok (.ifCond .lt 14, 3) := by decide +kernel
theorem dJ1_canEncode_9a6ad_4 : decode cJ1_canEncode_9a6ad 4 = .ok (.iload_n 0, 1) := by decide +kernel
theorem dJ1_canEncode_9a6ad_5 : decode cJ1_canEncode_9a6ad 5 = .ok (.sipush 255, 3) := by decide +kernel
theorem dJ1_canEncode_9a6ad_8 : decode cJ1_canEncode_9a6ad 8 = .ok (.if_icmp .gt 7, 3) := by decide +kernel
theorem dJ1_canEncode_9a6ad_11 : decode cJ1_canEncode_9a6ad 11 = .ok (.iconst 1, 1) := by decide +kernel
theorem dJ1_canEncode_9a6ad_12 : decode cJ1_canEncode_9a6ad 12 = .ok (.goto 4, 3) := by decide +kernel
theorem dJ1_canEncode_9a6ad_16 : decode cJ1_canEncode_9a6ad 16 = .ok (.ireturn, 1) := by decide +kernel
theorem dJ1_indexOfChar_4cfef_0 : decode cJ1_indexOfChar_4cfef 0 = .ok (.iload_n 1, 1) := by decide +kernel
theorem dJ1_indexOfChar_4cfef_1 : decode cJ1_indexOfChar_4cfef 1 = .ok (.i2b, 1) := by decide +kernel
theorem dJ1_indexOfChar_4cfef_2 : decode cJ1_indexOfChar_4cfef 2 = .ok (.istore 4, 2) := by decide +kernel
theorem dJ1_indexOfChar_4cfef_4 : decode cJ1_indexOfChar_4cfef 4 = .ok (.iload_n 2, 1) := by decide +kernel
theorem dJ1_indexOfChar_4cfef_5 : decode cJ1_indexOfChar_4cfef 5 = .ok (.istore 5, 2) := by decide +kernel
theorem dJ1_indexOfChar_4cfef_7 : decode cJ1_indexOfChar_4cfef 7 = .ok (.iload 5, 2) := by decide +kernel
theorem dJ1_indexOfChar_4cfef_9 : decode cJ1_indexOfChar_4cfef 9 = .ok (.iload_n 3, 1) := by decide +kernel
theorem dJ1_indexOfChar_4cfef_10 : decode cJ1_indexOfChar_4cfef 10 = .ok (.if_icmp .ge 21, 3) := by decide +kernel
theorem dJ1_indexOfChar_4cfef_13 : decode cJ1_indexOfChar_4cfef 13 = .ok (.aload_n 0, 1) := by decide +kernel
theorem dJ1_indexOfChar_4cfef_14 : decode cJ1_indexOfChar_4cfef 14 = .ok (.iload 5, 2) := by decide +kernel
theorem dJ1_indexOfChar_4cfef_16 : decode cJ1_indexOfChar_4cfef 16 = .ok (.baload, 1) := by decide +kernel
theorem dJ1_indexOfChar_4cfef_17 : decode cJ1_indexOfChar_4cfef 17 = .ok (.iload 4, 2) := by decide +kernel
theorem dJ1_indexOfChar_4cfef_19 : decode cJ1_indexOfChar_4cfef 19 = .ok (.if_icmp .ne 6, 3) := by decide +kernel
theorem dJ1_indexOfChar_4cfef_25 : decode cJ1_indexOfChar_4cfef 25 = .ok (.iinc 5 1, 3) := by decide +kernel
theorem dJ1_indexOfChar_4cfef_28 : decode cJ1_indexOfChar_4cfef 28 = .ok (.goto (-21), 3) := by decide +kernel
theorem dJ1_indexOfChar_4cfef_31 : decode cJ1_indexOfChar_4cfef 31 = .ok (.iconst (-1), 1) := by decide +kernel
theorem dJ1_indexOfChar_4cfef_32 : decode cJ1_indexOfChar_4cfef 32 = .ok (.ireturn, 1) := by decide +kernel
theorem dJ1_indexOfChar_4cfef_22 : decode cJ1_indexOfChar_4cfef 22 = .ok (.iload 5, 2) := by decide +kernel
theorem dJ1_indexOfChar_4cfef_24 : decode cJ1_indexOfChar_4cfef 24 = .ok (.ireturn, 1) := by decide +kernel
theorem dJ1_indexOf_4cfef_0 : decode cJ1_indexOf_4cfef 0 = .ok (.iload_n 1, 1) := by decide +kernel
theorem dJ1_indexOf_4cfef_1 : decode cJ1_indexOf_4cfef 1 = .ok (.invokestatic 88, 3) := by decide +kernel
theorem dJ1_indexOf_4cfef_4 : decode cJ1_indexOf_4cfef 4 = .ok (.ifCond .ne 5, 3) := by decide +kernel
theorem dJ1_indexOf_4cfef_9 : decode cJ1_indexOf_4cfef 9 = .ok (.iload_n 2, 1) := by decide +kernel
theorem dJ1_indexOf_4cfef_10 : decode cJ1_indexOf_4cfef 10 = .ok (.iconst 0, 1) := by decide +kernel
theorem dJ1_indexOf_4cfef_11 : decode cJ1_indexOf_4cfef 11 = .ok (.invokestatic 92, 3) := by decide +kernel
theorem dJ1_indexOf_4cfef_14 : decode cJ1_indexOf_4cfef 14 = .ok (.istore_n 2, 1) := by decide +kernel
theorem dJ1_indexOf_4cfef_15 : decode cJ1_indexOf_4cfef 15 = .ok (.iload_n 3, 1) := by decide +kernel
theorem dJ1_indexOf_4cfef_16 : decode cJ1_indexOf_4cfef 16 = .ok (.aload_n 0, 1) := by decide +kernel
theorem dJ1_indexOf_4cfef_17 : decode cJ1_indexOf_4cfef 17 = .ok (.arraylength, 1) := by decide +kernel
theorem dJ1_indexOf_4cfef_18 : decode cJ1_indexOf_4cfef 18 = .ok (.invokestatic 38, 3) := by decide +kernel
theorem dJ1_indexOf_4cfef_21 : decode cJ1_indexOf_4cfef 21 = .ok (.istore_n 3, 1) := by decide +kernel
theorem dJ1_indexOf_4cfef_22 : decode cJ1_indexOf_4cfef 22 = .ok (.iload_n 2, 1) := by decide +kernel
theorem dJ1_indexOf_4cfef_23 : decode cJ1_indexOf_4cfef 23 = .ok (.iload_n 3, 1) := by decide +kernel
theorem dJ1_indexOf_4cfef_24 : decode cJ1_indexOf_4cfef 24 = .ok (.if_icmp .lt 5, 3) := by decide +kernel
theorem dJ1_indexOf_4cfef_29 : decode cJ1_indexOf_4cfef 29 = .ok (.aload_n 0, 1) := by decide +kernel
theorem dJ1_indexOf_4cfef_30 : decode cJ1_indexOf_4cfef 30 = .ok (.iload_n 1, 1) := by decide +kernel
theorem dJ1_indexOf_4cfef_31 : decode cJ1_indexOf_4cfef 31 = .ok (.iload_n 2, 1) := by decide +kernel
theorem dJ1_indexOf_4cfef_32 : decode cJ1_indexOf_4cfef 32 = .ok (.iload_n 3, 1) := by decide +kernel
theorem dJ1_indexOf_4cfef_33 : decode cJ1_indexOf_4cfef 33 = .ok (.invokestatic 95, 3) := by decide +kernel
theorem dJ1_indexOf_4cfef_36 : decode cJ1_indexOf_4cfef 36 = .ok (.ireturn, 1) := by decide +kernel
theorem dJ0_indexOf_7cf53_0 : decode cJ0_indexOf_7cf53 0 = .ok (.aload_n 0, 1) := by decide +kernel
theorem dJ0_indexOf_7cf53_1 : decode cJ0_indexOf_7cf53 1 = .ok (.invokevirtual 492, 3) := by decide +kernel
theorem dJ0_indexOf_7cf53_4 : decode cJ0_indexOf_7cf53 4 = .ok (.ifCond .eq 19, 3) := by decide +kernel
theorem dJ0_indexOf_7cf53_7 : decode cJ0_indexOf_7cf53 7 = .ok (.aload_n 0, 1) := by decide +kernel
theorem dJ0_indexOf_7cf53_8 : decode cJ0_indexOf_7cf53 8 = .ok (.getfield 9, 3) := by decide +kernel
theorem dJ0_indexOf_7cf53_11 : decode cJ0_indexOf_7cf53 11 = .ok (.iload_n 1, 1) := by decide +kernel
theorem dJ0_indexOf_7cf53_12 : decode cJ0_indexOf_7cf53 12 = .ok (.iload_n 2, 1) := by decide +kernel
theorem dJ0_indexOf_7cf53_13 : decode cJ0_indexOf_7cf53 13 = .ok (.aload_n 0, 1) := by decide +kernel
theorem dJ0_indexOf_7cf53_14 : decode cJ0_indexOf_7cf53 14 = .ok (.invokevirtual 505, 3) := by decide +kernel
theorem dJ0_indexOf_7cf53_17 : decode cJ0_indexOf_7cf53 17 = .ok (.invokestatic 637, 3) := by decide +kernel
theorem dJ0_indexOf_7cf53_20 : decode cJ0_indexOf_7cf53 20 = .ok (.goto 16, 3) := by decide +kernel
theorem dJ0_indexOf_7cf53_36 : decode cJ0_indexOf_7cf53 36 = .ok (.ireturn, 1) := by decide +kernel
theorem dJ0_indexOf_0f7a4_0 : decode cJ0_indexOf_0f7a4 0 = .ok (.aload_n 0, 1) := by decide +kernel
theorem dJ0_indexOf_0f7a4_1 : decode cJ0_indexOf_0f7a4 1 = .ok (.iload_n 1, 1) := by decide +kernel
theorem dJ0_indexOf_0f7a4_2 : decode cJ0_indexOf_0f7a4 2 = .ok (.iconst 0, 1) := by decide +kernel
theorem dJ0_indexOf_0f7a4_3 : decode cJ0_indexOf_0f7a4 3 = .ok (.invokevirtual 633, 3) := by decide +kernel
theorem dJ0_indexOf_0f7a4_6 : decode cJ0_indexOf_0f7a4 6 = .ok (.ireturn, 1) := by decide +kernel
set_option maxHeartbeats 4000000 in
set_option maxRecDepth 100000 in
theorem c_J0_isLatin1 (l : Launch) (D : va_G) (tA : Nat → ClassId) (b : Nat) (o n : Nat) (i F : Nat → Nat → Int32) (G : Nat → Nat → Int64)  : xMI l yJ0_isLatin1_aae02 cJ0_isLatin1_aae02 1 (some .boolean) 0 0 D tA b o n i F G [.ref (tA 10)] (fun r u => u = (i, F, G) ∧ r = 1) := by
  refine xstart RJ0 rfl (by decide) (Nat.le_of_ble_eq_true rfl) ?_
  intro p e s m below meth c ls C0 hr hH hS hl
  have hl : lv_has ls 1 [(0, .ref (tA 10))] := hl
  refine va_gets (pc := 0) C0.1 C0.2.1 (cxSK C0).2.2 (cxS C0 hS) C0.2.2.2.1 (C0.2.2.2.2.1 _ fs_J0_38) (fun _ h => h) dJ0_isLatin1_aae02_0 ?_
  refine lv_if_eq (pc := 3) (tgt := 17) C0.1 C0.2.1 dJ0_isLatin1_aae02_3 (by decide) (fun c => absurd c (by decide)) (fun _ => ?_)
  refine lv_aload_n (pc := 6) C0.1 C0.2.1 dJ0_isLatin1_aae02_6 rfl (lv_at hl 0 rfl) ?_
  refine vk_getf (pc := 7) C0.1 C0.2.1 ((cxSK C0).1.1 0 (by decide)).2.1 (cxS C0 hS) C0.2.2.2.1 (C0.2.2.2.2.1 _ fs_J0_15) (fun _ h => h) dJ0_isLatin1_aae02_7 ?_
  refine lv_if_ne (pc := 10) (tgt := 17) C0.1 C0.2.1 dJ0_isLatin1_aae02_10 (by decide) (fun c => absurd (by decide) c) (fun _ => ?_)
  refine lv_iconst (pc := 13) (v := 1) C0.1 C0.2.1 dJ0_isLatin1_aae02_13 (by decide) ?_
  refine lv_goto (pc := 14) (tgt := 18) C0.1 C0.2.1 dJ0_isLatin1_aae02_14 (by decide) ?_
  exact xzret (pc := 18) C0 hr hH hS dJ0_isLatin1_aae02_18 (by decide) ⟨rfl, rfl⟩
set_option maxHeartbeats 4000000 in
set_option maxRecDepth 100000 in
theorem c_J0_coder (l : Launch) (D : va_G) (tA : Nat → ClassId) (b : Nat) (o n : Nat) (i F : Nat → Nat → Int32) (G : Nat → Nat → Int64)  : xMI l yJ0_coder_7d493 cJ0_coder_7d493 1 (some .byte) 0 0 D tA b o n i F G [.ref (tA 10)] (fun r u => u = (i, F, G) ∧ r = 0) := by
  refine xstart RJ0 rfl (by decide) (Nat.le_of_ble_eq_true rfl) ?_
  intro p e s m below meth c ls C0 hr hH hS hl
  have hl : lv_has ls 1 [(0, .ref (tA 10))] := hl
  refine va_gets (pc := 0) C0.1 C0.2.1 (cxSK C0).2.2 (cxS C0 hS) C0.2.2.2.1 (C0.2.2.2.2.1 _ fs_J0_38) (fun _ h => h) dJ0_coder_7d493_0 ?_
  refine lv_if_eq (pc := 3) (tgt := 13) C0.1 C0.2.1 dJ0_coder_7d493_3 (by decide) (fun c => absurd c (by decide)) (fun _ => ?_)
  refine lv_aload_n (pc := 6) C0.1 C0.2.1 dJ0_coder_7d493_6 rfl (lv_at hl 0 rfl) ?_
  refine vk_getf (pc := 7) C0.1 C0.2.1 ((cxSK C0).1.1 0 (by decide)).2.1 (cxS C0 hS) C0.2.2.2.1 (C0.2.2.2.2.1 _ fs_J0_15) (fun _ h => h) dJ0_coder_7d493_7 ?_
  refine lv_goto (pc := 10) (tgt := 14) C0.1 C0.2.1 dJ0_coder_7d493_10 (by decide) ?_
  exact xbret (pc := 14) C0 hr hH hS dJ0_coder_7d493_14 rfl ⟨rfl, rfl⟩
set_option maxHeartbeats 4000000 in
set_option maxRecDepth 100000 in
theorem c_J0_length (l : Launch) (D : va_G) (tA : Nat → ClassId) (b : Nat) (o n : Nat) (i F : Nat → Nat → Int32) (G : Nat → Nat → Int64)  : xMI l yJ0_length_8abf5 cJ0_length_8abf5 1 (some .int) 1 20 D tA b o n i F G [.ref (tA 10)] (fun r u => u = (i, F, G) ∧ r = 25) := by
  refine xstart RJ0 rfl (by decide) (Nat.le_of_ble_eq_true rfl) ?_
  intro p e s m below meth c ls C0 hr hH hS hl
  have hl : lv_has ls 1 [(0, .ref (tA 10))] := hl
  refine lv_aload_n (pc := 0) C0.1 C0.2.1 dJ0_length_8abf5_0 rfl (lv_at hl 0 rfl) ?_
  refine vk_getf (pc := 1) C0.1 C0.2.1 ((cxSK C0).1.1 0 (by decide)).2.2.1 (cxS C0 hS) C0.2.2.2.1 (C0.2.2.2.2.1 _ fs_J0_9) (fun _ h => h) dJ0_length_8abf5_1 ?_
  refine va_tlen (pc := 4) C0.1 C0.2.1 ((cxSK C0).1.1 0 (by decide)).2.2.2 (cxS C0 hS) (v := 25) rfl dJ0_length_8abf5_4 ?_
  refine lv_aload_n (pc := 5) C0.1 C0.2.1 dJ0_length_8abf5_5 rfl (lv_at hl 0 rfl) ?_
  refine xcVS (pc := 6) [] (c_J0_coder l D tA b o n i F G ) C0 hH hS rfl cw_J0_335 rfl ⟨Nat.le_of_ble_eq_true rfl, Nat.le_of_ble_eq_true rfl⟩ hl.1 rfl (Nat.le_of_ble_eq_true rfl) dJ0_length_8abf5_6 ⟨Nat.le_of_ble_eq_true rfl, Nat.le_of_ble_eq_true rfl⟩ (fun r1 ir1 Fr1 Gr1 _ locs hp hH hS => ?_)
  obtain ⟨hu, rfl⟩ := hp
  cases hu
  refine lv_ishr (pc := 9) C0.1 C0.2.1 dJ0_length_8abf5_9 ?_
  refine lv_topi (fun q2 eq2 => ?_)
  obtain rfl : q2 = 25 := eq2.trans (by decide)
  exact xiret (pc := 10) C0 hr hH hS dJ0_length_8abf5_10 ⟨rfl, rfl⟩
set_option maxHeartbeats 4000000 in
set_option maxRecDepth 100000 in
theorem c_J1_canEncode (l : Launch) (D : va_G) (tA : Nat → ClassId) (b : Nat) (o n : Nat) (i F : Nat → Nat → Int32) (G : Nat → Nat → Int64) (k : Nat) (hk : k < 256) : xMI l yJ1_canEncode_9a6ad cJ1_canEncode_9a6ad 1 (some .boolean) 0 0 D tA b o n i F G [.int (nI k)] (fun r u => u = (i, F, G) ∧ r = 1) := by
  refine xstart RJ1 rfl (by decide) (Nat.le_of_ble_eq_true rfl) ?_
  intro p e s m below meth c ls C0 hr hH hS hl
  have hl : lv_has ls 1 [(0, .int (nI k))] := hl
  refine lv_iload_n (pc := 0) C0.1 C0.2.1 dJ1_canEncode_9a6ad_0 rfl (lv_at hl 0 rfl) ?_
  refine lv_if_lt (pc := 1) (tgt := 15) C0.1 C0.2.1 dJ1_canEncode_9a6ad_1 (by decide) (fun c => absurd c (nI_pos (by omega))) (fun _ => ?_)
  refine lv_iload_n (pc := 4) C0.1 C0.2.1 dJ1_canEncode_9a6ad_4 rfl (lv_at hl 0 rfl) ?_
  refine lv_sipush (pc := 5) (v := 255) C0.1 C0.2.1 dJ1_canEncode_9a6ad_5 (by decide) ?_
  refine lv_icmp_gt (pc := 8) (tgt := 15) C0.1 C0.2.1 dJ1_canEncode_9a6ad_8 (by decide) (fun c => absurd c (Int32.not_lt.mpr ((nI_leI (b := 255) (by omega) (by decide)).mpr (by omega)))) (fun _ => ?_)
  refine lv_iconst (pc := 11) (v := 1) C0.1 C0.2.1 dJ1_canEncode_9a6ad_11 (by decide) ?_
  refine lv_goto (pc := 12) (tgt := 16) C0.1 C0.2.1 dJ1_canEncode_9a6ad_12 (by decide) ?_
  exact xzret (pc := 16) C0 hr hH hS dJ1_canEncode_9a6ad_16 (by decide) ⟨rfl, rfl⟩
set_option maxHeartbeats 4000000 in
set_option maxRecDepth 100000 in
theorem c_J1_indexOfChar (l : Launch) (D : va_G) (tA : Nat → ClassId) (b : Nat) (o n : Nat) (i F : Nat → Nat → Int32) (G : Nat → Nat → Int64) (k : Nat) (hk : k < 256) : xMI l yJ1_indexOfChar_4cfef cJ1_indexOfChar_4cfef 6 (some .int) 0 0 D tA b o n i F G [.ref (tA 11), .int (nI k), .int 0, .int 25] (fun r u => u = (i, F, G) ∧ r = ix k) := by
  refine xstart RJ1 rfl (by decide) (Nat.le_of_ble_eq_true rfl) ?_
  intro p e s m below meth c ls C0 hr hH hS hl
  have hl : lv_has ls 6 [(0, .ref (tA 11)), (1, .int (nI k)), (2, .int 0), (3, .int 25)] := hl
  refine lv_iload_n (pc := 0) C0.1 C0.2.1 dJ1_indexOfChar_4cfef_0 rfl (lv_at hl 1 rfl) ?_
  refine lv_i2b (pc := 1) (v := (nI k).toInt8.toInt32) C0.1 C0.2.1 dJ1_indexOfChar_4cfef_1 rfl ?_
  refine lv_topi (fun x1 ex1 => ?_)
  refine lv_istore (pc := 2) (lv' := [(4, .int x1), (0, .ref (tA 11)), (1, .int (nI k)), (2, .int 0), (3, .int 25)]) C0.1 C0.2.1 dJ1_indexOfChar_4cfef_2 hl (by decide) rfl (fun ls hl => ?_)
  refine lv_iload_n (pc := 4) C0.1 C0.2.1 dJ1_indexOfChar_4cfef_4 rfl (lv_at hl 3 rfl) ?_
  refine lv_istore (pc := 5) (lv' := [(5, .int 0), (4, .int x1), (0, .ref (tA 11)), (1, .int (nI k)), (2, .int 0), (3, .int 25)]) C0.1 C0.2.1 dJ1_indexOfChar_4cfef_5 hl (by decide) rfl (fun ls hl => ?_)
  refine lv_iload (pc := 7) C0.1 C0.2.1 dJ1_indexOfChar_4cfef_7 (lv_at hl 0 rfl) ?_
  refine lv_iload_n (pc := 9) C0.1 C0.2.1 dJ1_indexOfChar_4cfef_9 rfl (lv_at hl 5 rfl) ?_
  refine lv_icmp_ge (pc := 10) (tgt := 31) C0.1 C0.2.1 dJ1_indexOfChar_4cfef_10 (by decide) (fun c => absurd c (by decide)) (fun _ => ?_)
  refine lv_aload_n (pc := 13) C0.1 C0.2.1 dJ1_indexOfChar_4cfef_13 rfl (lv_at hl 2 rfl) ?_
  refine lv_iload (pc := 14) C0.1 C0.2.1 dJ1_indexOfChar_4cfef_14 (lv_at hl 0 rfl) ?_
  refine va_tb (pc := 16) C0.1 C0.2.1 ((cxSK C0).1.1 0 (by decide)).2.2.2 (cxS C0 hS) (vin (by decide)) (v := .int (mkBy.getD 0 0)) rfl dJ1_indexOfChar_4cfef_16 ?_
  refine lv_iload (pc := 17) C0.1 C0.2.1 dJ1_indexOfChar_4cfef_17 (lv_at hl 1 rfl) ?_
  refine lv_icmp_ne (pc := 19) (tgt := 25) C0.1 C0.2.1 dJ1_indexOfChar_4cfef_19 (by decide) (fun c0 => ?_) (fun c0 => ?_)
  · have c0 : ¬ k = 33 := (by_eq k hk 0 (by decide)).2 (by rw [← ex1]; exact c0)
    refine lv_iinc (pc := 25) (v := 1) (lv' := [(5, .int 1), (4, .int x1), (0, .ref (tA 11)), (1, .int (nI k)), (2, .int 0), (3, .int 25)]) C0.1 C0.2.1 dJ1_indexOfChar_4cfef_25 hl (k := 0) rfl (by decide) (by decide) rfl (fun ls hl => ?_)
    refine lv_goto (pc := 28) (tgt := 7) C0.1 C0.2.1 dJ1_indexOfChar_4cfef_28 (by decide) ?_
    refine lv_iload (pc := 7) C0.1 C0.2.1 dJ1_indexOfChar_4cfef_7 (lv_at hl 0 rfl) ?_
    refine lv_iload_n (pc := 9) C0.1 C0.2.1 dJ1_indexOfChar_4cfef_9 rfl (lv_at hl 5 rfl) ?_
    refine lv_icmp_ge (pc := 10) (tgt := 31) C0.1 C0.2.1 dJ1_indexOfChar_4cfef_10 (by decide) (fun c => absurd c (by decide)) (fun _ => ?_)
    refine lv_aload_n (pc := 13) C0.1 C0.2.1 dJ1_indexOfChar_4cfef_13 rfl (lv_at hl 2 rfl) ?_
    refine lv_iload (pc := 14) C0.1 C0.2.1 dJ1_indexOfChar_4cfef_14 (lv_at hl 0 rfl) ?_
    refine va_tb (pc := 16) C0.1 C0.2.1 ((cxSK C0).1.1 0 (by decide)).2.2.2 (cxS C0 hS) (vin (by decide)) (v := .int (mkBy.getD 1 0)) rfl dJ1_indexOfChar_4cfef_16 ?_
    refine lv_iload (pc := 17) C0.1 C0.2.1 dJ1_indexOfChar_4cfef_17 (lv_at hl 1 rfl) ?_
    refine lv_icmp_ne (pc := 19) (tgt := 25) C0.1 C0.2.1 dJ1_indexOfChar_4cfef_19 (by decide) (fun c1 => ?_) (fun c1 => ?_)
    · have c1 : ¬ k = 34 := (by_eq k hk 1 (by decide)).2 (by rw [← ex1]; exact c1)
      refine lv_iinc (pc := 25) (v := 2) (lv' := [(5, .int 2), (4, .int x1), (0, .ref (tA 11)), (1, .int (nI k)), (2, .int 0), (3, .int 25)]) C0.1 C0.2.1 dJ1_indexOfChar_4cfef_25 hl (k := 0) rfl (by decide) (by decide) rfl (fun ls hl => ?_)
      refine lv_goto (pc := 28) (tgt := 7) C0.1 C0.2.1 dJ1_indexOfChar_4cfef_28 (by decide) ?_
      refine lv_iload (pc := 7) C0.1 C0.2.1 dJ1_indexOfChar_4cfef_7 (lv_at hl 0 rfl) ?_
      refine lv_iload_n (pc := 9) C0.1 C0.2.1 dJ1_indexOfChar_4cfef_9 rfl (lv_at hl 5 rfl) ?_
      refine lv_icmp_ge (pc := 10) (tgt := 31) C0.1 C0.2.1 dJ1_indexOfChar_4cfef_10 (by decide) (fun c => absurd c (by decide)) (fun _ => ?_)
      refine lv_aload_n (pc := 13) C0.1 C0.2.1 dJ1_indexOfChar_4cfef_13 rfl (lv_at hl 2 rfl) ?_
      refine lv_iload (pc := 14) C0.1 C0.2.1 dJ1_indexOfChar_4cfef_14 (lv_at hl 0 rfl) ?_
      refine va_tb (pc := 16) C0.1 C0.2.1 ((cxSK C0).1.1 0 (by decide)).2.2.2 (cxS C0 hS) (vin (by decide)) (v := .int (mkBy.getD 2 0)) rfl dJ1_indexOfChar_4cfef_16 ?_
      refine lv_iload (pc := 17) C0.1 C0.2.1 dJ1_indexOfChar_4cfef_17 (lv_at hl 1 rfl) ?_
      refine lv_icmp_ne (pc := 19) (tgt := 25) C0.1 C0.2.1 dJ1_indexOfChar_4cfef_19 (by decide) (fun c2 => ?_) (fun c2 => ?_)
      · have c2 : ¬ k = 36 := (by_eq k hk 2 (by decide)).2 (by rw [← ex1]; exact c2)
        refine lv_iinc (pc := 25) (v := 3) (lv' := [(5, .int 3), (4, .int x1), (0, .ref (tA 11)), (1, .int (nI k)), (2, .int 0), (3, .int 25)]) C0.1 C0.2.1 dJ1_indexOfChar_4cfef_25 hl (k := 0) rfl (by decide) (by decide) rfl (fun ls hl => ?_)
        refine lv_goto (pc := 28) (tgt := 7) C0.1 C0.2.1 dJ1_indexOfChar_4cfef_28 (by decide) ?_
        refine lv_iload (pc := 7) C0.1 C0.2.1 dJ1_indexOfChar_4cfef_7 (lv_at hl 0 rfl) ?_
        refine lv_iload_n (pc := 9) C0.1 C0.2.1 dJ1_indexOfChar_4cfef_9 rfl (lv_at hl 5 rfl) ?_
        refine lv_icmp_ge (pc := 10) (tgt := 31) C0.1 C0.2.1 dJ1_indexOfChar_4cfef_10 (by decide) (fun c => absurd c (by decide)) (fun _ => ?_)
        refine lv_aload_n (pc := 13) C0.1 C0.2.1 dJ1_indexOfChar_4cfef_13 rfl (lv_at hl 2 rfl) ?_
        refine lv_iload (pc := 14) C0.1 C0.2.1 dJ1_indexOfChar_4cfef_14 (lv_at hl 0 rfl) ?_
        refine va_tb (pc := 16) C0.1 C0.2.1 ((cxSK C0).1.1 0 (by decide)).2.2.2 (cxS C0 hS) (vin (by decide)) (v := .int (mkBy.getD 3 0)) rfl dJ1_indexOfChar_4cfef_16 ?_
        refine lv_iload (pc := 17) C0.1 C0.2.1 dJ1_indexOfChar_4cfef_17 (lv_at hl 1 rfl) ?_
        refine lv_icmp_ne (pc := 19) (tgt := 25) C0.1 C0.2.1 dJ1_indexOfChar_4cfef_19 (by decide) (fun c3 => ?_) (fun c3 => ?_)
        · have c3 : ¬ k = 37 := (by_eq k hk 3 (by decide)).2 (by rw [← ex1]; exact c3)
          refine lv_iinc (pc := 25) (v := 4) (lv' := [(5, .int 4), (4, .int x1), (0, .ref (tA 11)), (1, .int (nI k)), (2, .int 0), (3, .int 25)]) C0.1 C0.2.1 dJ1_indexOfChar_4cfef_25 hl (k := 0) rfl (by decide) (by decide) rfl (fun ls hl => ?_)
          refine lv_goto (pc := 28) (tgt := 7) C0.1 C0.2.1 dJ1_indexOfChar_4cfef_28 (by decide) ?_
          refine lv_iload (pc := 7) C0.1 C0.2.1 dJ1_indexOfChar_4cfef_7 (lv_at hl 0 rfl) ?_
          refine lv_iload_n (pc := 9) C0.1 C0.2.1 dJ1_indexOfChar_4cfef_9 rfl (lv_at hl 5 rfl) ?_
          refine lv_icmp_ge (pc := 10) (tgt := 31) C0.1 C0.2.1 dJ1_indexOfChar_4cfef_10 (by decide) (fun c => absurd c (by decide)) (fun _ => ?_)
          refine lv_aload_n (pc := 13) C0.1 C0.2.1 dJ1_indexOfChar_4cfef_13 rfl (lv_at hl 2 rfl) ?_
          refine lv_iload (pc := 14) C0.1 C0.2.1 dJ1_indexOfChar_4cfef_14 (lv_at hl 0 rfl) ?_
          refine va_tb (pc := 16) C0.1 C0.2.1 ((cxSK C0).1.1 0 (by decide)).2.2.2 (cxS C0 hS) (vin (by decide)) (v := .int (mkBy.getD 4 0)) rfl dJ1_indexOfChar_4cfef_16 ?_
          refine lv_iload (pc := 17) C0.1 C0.2.1 dJ1_indexOfChar_4cfef_17 (lv_at hl 1 rfl) ?_
          refine lv_icmp_ne (pc := 19) (tgt := 25) C0.1 C0.2.1 dJ1_indexOfChar_4cfef_19 (by decide) (fun c4 => ?_) (fun c4 => ?_)
          · have c4 : ¬ k = 38 := (by_eq k hk 4 (by decide)).2 (by rw [← ex1]; exact c4)
            refine lv_iinc (pc := 25) (v := 5) (lv' := [(5, .int 5), (4, .int x1), (0, .ref (tA 11)), (1, .int (nI k)), (2, .int 0), (3, .int 25)]) C0.1 C0.2.1 dJ1_indexOfChar_4cfef_25 hl (k := 0) rfl (by decide) (by decide) rfl (fun ls hl => ?_)
            refine lv_goto (pc := 28) (tgt := 7) C0.1 C0.2.1 dJ1_indexOfChar_4cfef_28 (by decide) ?_
            refine lv_iload (pc := 7) C0.1 C0.2.1 dJ1_indexOfChar_4cfef_7 (lv_at hl 0 rfl) ?_
            refine lv_iload_n (pc := 9) C0.1 C0.2.1 dJ1_indexOfChar_4cfef_9 rfl (lv_at hl 5 rfl) ?_
            refine lv_icmp_ge (pc := 10) (tgt := 31) C0.1 C0.2.1 dJ1_indexOfChar_4cfef_10 (by decide) (fun c => absurd c (by decide)) (fun _ => ?_)
            refine lv_aload_n (pc := 13) C0.1 C0.2.1 dJ1_indexOfChar_4cfef_13 rfl (lv_at hl 2 rfl) ?_
            refine lv_iload (pc := 14) C0.1 C0.2.1 dJ1_indexOfChar_4cfef_14 (lv_at hl 0 rfl) ?_
            refine va_tb (pc := 16) C0.1 C0.2.1 ((cxSK C0).1.1 0 (by decide)).2.2.2 (cxS C0 hS) (vin (by decide)) (v := .int (mkBy.getD 5 0)) rfl dJ1_indexOfChar_4cfef_16 ?_
            refine lv_iload (pc := 17) C0.1 C0.2.1 dJ1_indexOfChar_4cfef_17 (lv_at hl 1 rfl) ?_
            refine lv_icmp_ne (pc := 19) (tgt := 25) C0.1 C0.2.1 dJ1_indexOfChar_4cfef_19 (by decide) (fun c5 => ?_) (fun c5 => ?_)
            · have c5 : ¬ k = 40 := (by_eq k hk 5 (by decide)).2 (by rw [← ex1]; exact c5)
              refine lv_iinc (pc := 25) (v := 6) (lv' := [(5, .int 6), (4, .int x1), (0, .ref (tA 11)), (1, .int (nI k)), (2, .int 0), (3, .int 25)]) C0.1 C0.2.1 dJ1_indexOfChar_4cfef_25 hl (k := 0) rfl (by decide) (by decide) rfl (fun ls hl => ?_)
              refine lv_goto (pc := 28) (tgt := 7) C0.1 C0.2.1 dJ1_indexOfChar_4cfef_28 (by decide) ?_
              refine lv_iload (pc := 7) C0.1 C0.2.1 dJ1_indexOfChar_4cfef_7 (lv_at hl 0 rfl) ?_
              refine lv_iload_n (pc := 9) C0.1 C0.2.1 dJ1_indexOfChar_4cfef_9 rfl (lv_at hl 5 rfl) ?_
              refine lv_icmp_ge (pc := 10) (tgt := 31) C0.1 C0.2.1 dJ1_indexOfChar_4cfef_10 (by decide) (fun c => absurd c (by decide)) (fun _ => ?_)
              refine lv_aload_n (pc := 13) C0.1 C0.2.1 dJ1_indexOfChar_4cfef_13 rfl (lv_at hl 2 rfl) ?_
              refine lv_iload (pc := 14) C0.1 C0.2.1 dJ1_indexOfChar_4cfef_14 (lv_at hl 0 rfl) ?_
              refine va_tb (pc := 16) C0.1 C0.2.1 ((cxSK C0).1.1 0 (by decide)).2.2.2 (cxS C0 hS) (vin (by decide)) (v := .int (mkBy.getD 6 0)) rfl dJ1_indexOfChar_4cfef_16 ?_
              refine lv_iload (pc := 17) C0.1 C0.2.1 dJ1_indexOfChar_4cfef_17 (lv_at hl 1 rfl) ?_
              refine lv_icmp_ne (pc := 19) (tgt := 25) C0.1 C0.2.1 dJ1_indexOfChar_4cfef_19 (by decide) (fun c6 => ?_) (fun c6 => ?_)
              · have c6 : ¬ k = 41 := (by_eq k hk 6 (by decide)).2 (by rw [← ex1]; exact c6)
                refine lv_iinc (pc := 25) (v := 7) (lv' := [(5, .int 7), (4, .int x1), (0, .ref (tA 11)), (1, .int (nI k)), (2, .int 0), (3, .int 25)]) C0.1 C0.2.1 dJ1_indexOfChar_4cfef_25 hl (k := 0) rfl (by decide) (by decide) rfl (fun ls hl => ?_)
                refine lv_goto (pc := 28) (tgt := 7) C0.1 C0.2.1 dJ1_indexOfChar_4cfef_28 (by decide) ?_
                refine lv_iload (pc := 7) C0.1 C0.2.1 dJ1_indexOfChar_4cfef_7 (lv_at hl 0 rfl) ?_
                refine lv_iload_n (pc := 9) C0.1 C0.2.1 dJ1_indexOfChar_4cfef_9 rfl (lv_at hl 5 rfl) ?_
                refine lv_icmp_ge (pc := 10) (tgt := 31) C0.1 C0.2.1 dJ1_indexOfChar_4cfef_10 (by decide) (fun c => absurd c (by decide)) (fun _ => ?_)
                refine lv_aload_n (pc := 13) C0.1 C0.2.1 dJ1_indexOfChar_4cfef_13 rfl (lv_at hl 2 rfl) ?_
                refine lv_iload (pc := 14) C0.1 C0.2.1 dJ1_indexOfChar_4cfef_14 (lv_at hl 0 rfl) ?_
                refine va_tb (pc := 16) C0.1 C0.2.1 ((cxSK C0).1.1 0 (by decide)).2.2.2 (cxS C0 hS) (vin (by decide)) (v := .int (mkBy.getD 7 0)) rfl dJ1_indexOfChar_4cfef_16 ?_
                refine lv_iload (pc := 17) C0.1 C0.2.1 dJ1_indexOfChar_4cfef_17 (lv_at hl 1 rfl) ?_
                refine lv_icmp_ne (pc := 19) (tgt := 25) C0.1 C0.2.1 dJ1_indexOfChar_4cfef_19 (by decide) (fun c7 => ?_) (fun c7 => ?_)
                · have c7 : ¬ k = 42 := (by_eq k hk 7 (by decide)).2 (by rw [← ex1]; exact c7)
                  refine lv_iinc (pc := 25) (v := 8) (lv' := [(5, .int 8), (4, .int x1), (0, .ref (tA 11)), (1, .int (nI k)), (2, .int 0), (3, .int 25)]) C0.1 C0.2.1 dJ1_indexOfChar_4cfef_25 hl (k := 0) rfl (by decide) (by decide) rfl (fun ls hl => ?_)
                  refine lv_goto (pc := 28) (tgt := 7) C0.1 C0.2.1 dJ1_indexOfChar_4cfef_28 (by decide) ?_
                  refine lv_iload (pc := 7) C0.1 C0.2.1 dJ1_indexOfChar_4cfef_7 (lv_at hl 0 rfl) ?_
                  refine lv_iload_n (pc := 9) C0.1 C0.2.1 dJ1_indexOfChar_4cfef_9 rfl (lv_at hl 5 rfl) ?_
                  refine lv_icmp_ge (pc := 10) (tgt := 31) C0.1 C0.2.1 dJ1_indexOfChar_4cfef_10 (by decide) (fun c => absurd c (by decide)) (fun _ => ?_)
                  refine lv_aload_n (pc := 13) C0.1 C0.2.1 dJ1_indexOfChar_4cfef_13 rfl (lv_at hl 2 rfl) ?_
                  refine lv_iload (pc := 14) C0.1 C0.2.1 dJ1_indexOfChar_4cfef_14 (lv_at hl 0 rfl) ?_
                  refine va_tb (pc := 16) C0.1 C0.2.1 ((cxSK C0).1.1 0 (by decide)).2.2.2 (cxS C0 hS) (vin (by decide)) (v := .int (mkBy.getD 8 0)) rfl dJ1_indexOfChar_4cfef_16 ?_
                  refine lv_iload (pc := 17) C0.1 C0.2.1 dJ1_indexOfChar_4cfef_17 (lv_at hl 1 rfl) ?_
                  refine lv_icmp_ne (pc := 19) (tgt := 25) C0.1 C0.2.1 dJ1_indexOfChar_4cfef_19 (by decide) (fun c8 => ?_) (fun c8 => ?_)
                  · have c8 : ¬ k = 43 := (by_eq k hk 8 (by decide)).2 (by rw [← ex1]; exact c8)
                    refine lv_iinc (pc := 25) (v := 9) (lv' := [(5, .int 9), (4, .int x1), (0, .ref (tA 11)), (1, .int (nI k)), (2, .int 0), (3, .int 25)]) C0.1 C0.2.1 dJ1_indexOfChar_4cfef_25 hl (k := 0) rfl (by decide) (by decide) rfl (fun ls hl => ?_)
                    refine lv_goto (pc := 28) (tgt := 7) C0.1 C0.2.1 dJ1_indexOfChar_4cfef_28 (by decide) ?_
                    refine lv_iload (pc := 7) C0.1 C0.2.1 dJ1_indexOfChar_4cfef_7 (lv_at hl 0 rfl) ?_
                    refine lv_iload_n (pc := 9) C0.1 C0.2.1 dJ1_indexOfChar_4cfef_9 rfl (lv_at hl 5 rfl) ?_
                    refine lv_icmp_ge (pc := 10) (tgt := 31) C0.1 C0.2.1 dJ1_indexOfChar_4cfef_10 (by decide) (fun c => absurd c (by decide)) (fun _ => ?_)
                    refine lv_aload_n (pc := 13) C0.1 C0.2.1 dJ1_indexOfChar_4cfef_13 rfl (lv_at hl 2 rfl) ?_
                    refine lv_iload (pc := 14) C0.1 C0.2.1 dJ1_indexOfChar_4cfef_14 (lv_at hl 0 rfl) ?_
                    refine va_tb (pc := 16) C0.1 C0.2.1 ((cxSK C0).1.1 0 (by decide)).2.2.2 (cxS C0 hS) (vin (by decide)) (v := .int (mkBy.getD 9 0)) rfl dJ1_indexOfChar_4cfef_16 ?_
                    refine lv_iload (pc := 17) C0.1 C0.2.1 dJ1_indexOfChar_4cfef_17 (lv_at hl 1 rfl) ?_
                    refine lv_icmp_ne (pc := 19) (tgt := 25) C0.1 C0.2.1 dJ1_indexOfChar_4cfef_19 (by decide) (fun c9 => ?_) (fun c9 => ?_)
                    · have c9 : ¬ k = 44 := (by_eq k hk 9 (by decide)).2 (by rw [← ex1]; exact c9)
                      refine lv_iinc (pc := 25) (v := 10) (lv' := [(5, .int 10), (4, .int x1), (0, .ref (tA 11)), (1, .int (nI k)), (2, .int 0), (3, .int 25)]) C0.1 C0.2.1 dJ1_indexOfChar_4cfef_25 hl (k := 0) rfl (by decide) (by decide) rfl (fun ls hl => ?_)
                      refine lv_goto (pc := 28) (tgt := 7) C0.1 C0.2.1 dJ1_indexOfChar_4cfef_28 (by decide) ?_
                      refine lv_iload (pc := 7) C0.1 C0.2.1 dJ1_indexOfChar_4cfef_7 (lv_at hl 0 rfl) ?_
                      refine lv_iload_n (pc := 9) C0.1 C0.2.1 dJ1_indexOfChar_4cfef_9 rfl (lv_at hl 5 rfl) ?_
                      refine lv_icmp_ge (pc := 10) (tgt := 31) C0.1 C0.2.1 dJ1_indexOfChar_4cfef_10 (by decide) (fun c => absurd c (by decide)) (fun _ => ?_)
                      refine lv_aload_n (pc := 13) C0.1 C0.2.1 dJ1_indexOfChar_4cfef_13 rfl (lv_at hl 2 rfl) ?_
                      refine lv_iload (pc := 14) C0.1 C0.2.1 dJ1_indexOfChar_4cfef_14 (lv_at hl 0 rfl) ?_
                      refine va_tb (pc := 16) C0.1 C0.2.1 ((cxSK C0).1.1 0 (by decide)).2.2.2 (cxS C0 hS) (vin (by decide)) (v := .int (mkBy.getD 10 0)) rfl dJ1_indexOfChar_4cfef_16 ?_
                      refine lv_iload (pc := 17) C0.1 C0.2.1 dJ1_indexOfChar_4cfef_17 (lv_at hl 1 rfl) ?_
                      refine lv_icmp_ne (pc := 19) (tgt := 25) C0.1 C0.2.1 dJ1_indexOfChar_4cfef_19 (by decide) (fun c10 => ?_) (fun c10 => ?_)
                      · have c10 : ¬ k = 45 := (by_eq k hk 10 (by decide)).2 (by rw [← ex1]; exact c10)
                        refine lv_iinc (pc := 25) (v := 11) (lv' := [(5, .int 11), (4, .int x1), (0, .ref (tA 11)), (1, .int (nI k)), (2, .int 0), (3, .int 25)]) C0.1 C0.2.1 dJ1_indexOfChar_4cfef_25 hl (k := 0) rfl (by decide) (by decide) rfl (fun ls hl => ?_)
                        refine lv_goto (pc := 28) (tgt := 7) C0.1 C0.2.1 dJ1_indexOfChar_4cfef_28 (by decide) ?_
                        refine lv_iload (pc := 7) C0.1 C0.2.1 dJ1_indexOfChar_4cfef_7 (lv_at hl 0 rfl) ?_
                        refine lv_iload_n (pc := 9) C0.1 C0.2.1 dJ1_indexOfChar_4cfef_9 rfl (lv_at hl 5 rfl) ?_
                        refine lv_icmp_ge (pc := 10) (tgt := 31) C0.1 C0.2.1 dJ1_indexOfChar_4cfef_10 (by decide) (fun c => absurd c (by decide)) (fun _ => ?_)
                        refine lv_aload_n (pc := 13) C0.1 C0.2.1 dJ1_indexOfChar_4cfef_13 rfl (lv_at hl 2 rfl) ?_
                        refine lv_iload (pc := 14) C0.1 C0.2.1 dJ1_indexOfChar_4cfef_14 (lv_at hl 0 rfl) ?_
                        refine va_tb (pc := 16) C0.1 C0.2.1 ((cxSK C0).1.1 0 (by decide)).2.2.2 (cxS C0 hS) (vin (by decide)) (v := .int (mkBy.getD 11 0)) rfl dJ1_indexOfChar_4cfef_16 ?_
                        refine lv_iload (pc := 17) C0.1 C0.2.1 dJ1_indexOfChar_4cfef_17 (lv_at hl 1 rfl) ?_
                        refine lv_icmp_ne (pc := 19) (tgt := 25) C0.1 C0.2.1 dJ1_indexOfChar_4cfef_19 (by decide) (fun c11 => ?_) (fun c11 => ?_)
                        · have c11 : ¬ k = 46 := (by_eq k hk 11 (by decide)).2 (by rw [← ex1]; exact c11)
                          refine lv_iinc (pc := 25) (v := 12) (lv' := [(5, .int 12), (4, .int x1), (0, .ref (tA 11)), (1, .int (nI k)), (2, .int 0), (3, .int 25)]) C0.1 C0.2.1 dJ1_indexOfChar_4cfef_25 hl (k := 0) rfl (by decide) (by decide) rfl (fun ls hl => ?_)
                          refine lv_goto (pc := 28) (tgt := 7) C0.1 C0.2.1 dJ1_indexOfChar_4cfef_28 (by decide) ?_
                          refine lv_iload (pc := 7) C0.1 C0.2.1 dJ1_indexOfChar_4cfef_7 (lv_at hl 0 rfl) ?_
                          refine lv_iload_n (pc := 9) C0.1 C0.2.1 dJ1_indexOfChar_4cfef_9 rfl (lv_at hl 5 rfl) ?_
                          refine lv_icmp_ge (pc := 10) (tgt := 31) C0.1 C0.2.1 dJ1_indexOfChar_4cfef_10 (by decide) (fun c => absurd c (by decide)) (fun _ => ?_)
                          refine lv_aload_n (pc := 13) C0.1 C0.2.1 dJ1_indexOfChar_4cfef_13 rfl (lv_at hl 2 rfl) ?_
                          refine lv_iload (pc := 14) C0.1 C0.2.1 dJ1_indexOfChar_4cfef_14 (lv_at hl 0 rfl) ?_
                          refine va_tb (pc := 16) C0.1 C0.2.1 ((cxSK C0).1.1 0 (by decide)).2.2.2 (cxS C0 hS) (vin (by decide)) (v := .int (mkBy.getD 12 0)) rfl dJ1_indexOfChar_4cfef_16 ?_
                          refine lv_iload (pc := 17) C0.1 C0.2.1 dJ1_indexOfChar_4cfef_17 (lv_at hl 1 rfl) ?_
                          refine lv_icmp_ne (pc := 19) (tgt := 25) C0.1 C0.2.1 dJ1_indexOfChar_4cfef_19 (by decide) (fun c12 => ?_) (fun c12 => ?_)
                          · have c12 : ¬ k = 47 := (by_eq k hk 12 (by decide)).2 (by rw [← ex1]; exact c12)
                            refine lv_iinc (pc := 25) (v := 13) (lv' := [(5, .int 13), (4, .int x1), (0, .ref (tA 11)), (1, .int (nI k)), (2, .int 0), (3, .int 25)]) C0.1 C0.2.1 dJ1_indexOfChar_4cfef_25 hl (k := 0) rfl (by decide) (by decide) rfl (fun ls hl => ?_)
                            refine lv_goto (pc := 28) (tgt := 7) C0.1 C0.2.1 dJ1_indexOfChar_4cfef_28 (by decide) ?_
                            refine lv_iload (pc := 7) C0.1 C0.2.1 dJ1_indexOfChar_4cfef_7 (lv_at hl 0 rfl) ?_
                            refine lv_iload_n (pc := 9) C0.1 C0.2.1 dJ1_indexOfChar_4cfef_9 rfl (lv_at hl 5 rfl) ?_
                            refine lv_icmp_ge (pc := 10) (tgt := 31) C0.1 C0.2.1 dJ1_indexOfChar_4cfef_10 (by decide) (fun c => absurd c (by decide)) (fun _ => ?_)
                            refine lv_aload_n (pc := 13) C0.1 C0.2.1 dJ1_indexOfChar_4cfef_13 rfl (lv_at hl 2 rfl) ?_
                            refine lv_iload (pc := 14) C0.1 C0.2.1 dJ1_indexOfChar_4cfef_14 (lv_at hl 0 rfl) ?_
                            refine va_tb (pc := 16) C0.1 C0.2.1 ((cxSK C0).1.1 0 (by decide)).2.2.2 (cxS C0 hS) (vin (by decide)) (v := .int (mkBy.getD 13 0)) rfl dJ1_indexOfChar_4cfef_16 ?_
                            refine lv_iload (pc := 17) C0.1 C0.2.1 dJ1_indexOfChar_4cfef_17 (lv_at hl 1 rfl) ?_
                            refine lv_icmp_ne (pc := 19) (tgt := 25) C0.1 C0.2.1 dJ1_indexOfChar_4cfef_19 (by decide) (fun c13 => ?_) (fun c13 => ?_)
                            · have c13 : ¬ k = 58 := (by_eq k hk 13 (by decide)).2 (by rw [← ex1]; exact c13)
                              refine lv_iinc (pc := 25) (v := 14) (lv' := [(5, .int 14), (4, .int x1), (0, .ref (tA 11)), (1, .int (nI k)), (2, .int 0), (3, .int 25)]) C0.1 C0.2.1 dJ1_indexOfChar_4cfef_25 hl (k := 0) rfl (by decide) (by decide) rfl (fun ls hl => ?_)
                              refine lv_goto (pc := 28) (tgt := 7) C0.1 C0.2.1 dJ1_indexOfChar_4cfef_28 (by decide) ?_
                              refine lv_iload (pc := 7) C0.1 C0.2.1 dJ1_indexOfChar_4cfef_7 (lv_at hl 0 rfl) ?_
                              refine lv_iload_n (pc := 9) C0.1 C0.2.1 dJ1_indexOfChar_4cfef_9 rfl (lv_at hl 5 rfl) ?_
                              refine lv_icmp_ge (pc := 10) (tgt := 31) C0.1 C0.2.1 dJ1_indexOfChar_4cfef_10 (by decide) (fun c => absurd c (by decide)) (fun _ => ?_)
                              refine lv_aload_n (pc := 13) C0.1 C0.2.1 dJ1_indexOfChar_4cfef_13 rfl (lv_at hl 2 rfl) ?_
                              refine lv_iload (pc := 14) C0.1 C0.2.1 dJ1_indexOfChar_4cfef_14 (lv_at hl 0 rfl) ?_
                              refine va_tb (pc := 16) C0.1 C0.2.1 ((cxSK C0).1.1 0 (by decide)).2.2.2 (cxS C0 hS) (vin (by decide)) (v := .int (mkBy.getD 14 0)) rfl dJ1_indexOfChar_4cfef_16 ?_
                              refine lv_iload (pc := 17) C0.1 C0.2.1 dJ1_indexOfChar_4cfef_17 (lv_at hl 1 rfl) ?_
                              refine lv_icmp_ne (pc := 19) (tgt := 25) C0.1 C0.2.1 dJ1_indexOfChar_4cfef_19 (by decide) (fun c14 => ?_) (fun c14 => ?_)
                              · have c14 : ¬ k = 59 := (by_eq k hk 14 (by decide)).2 (by rw [← ex1]; exact c14)
                                refine lv_iinc (pc := 25) (v := 15) (lv' := [(5, .int 15), (4, .int x1), (0, .ref (tA 11)), (1, .int (nI k)), (2, .int 0), (3, .int 25)]) C0.1 C0.2.1 dJ1_indexOfChar_4cfef_25 hl (k := 0) rfl (by decide) (by decide) rfl (fun ls hl => ?_)
                                refine lv_goto (pc := 28) (tgt := 7) C0.1 C0.2.1 dJ1_indexOfChar_4cfef_28 (by decide) ?_
                                refine lv_iload (pc := 7) C0.1 C0.2.1 dJ1_indexOfChar_4cfef_7 (lv_at hl 0 rfl) ?_
                                refine lv_iload_n (pc := 9) C0.1 C0.2.1 dJ1_indexOfChar_4cfef_9 rfl (lv_at hl 5 rfl) ?_
                                refine lv_icmp_ge (pc := 10) (tgt := 31) C0.1 C0.2.1 dJ1_indexOfChar_4cfef_10 (by decide) (fun c => absurd c (by decide)) (fun _ => ?_)
                                refine lv_aload_n (pc := 13) C0.1 C0.2.1 dJ1_indexOfChar_4cfef_13 rfl (lv_at hl 2 rfl) ?_
                                refine lv_iload (pc := 14) C0.1 C0.2.1 dJ1_indexOfChar_4cfef_14 (lv_at hl 0 rfl) ?_
                                refine va_tb (pc := 16) C0.1 C0.2.1 ((cxSK C0).1.1 0 (by decide)).2.2.2 (cxS C0 hS) (vin (by decide)) (v := .int (mkBy.getD 15 0)) rfl dJ1_indexOfChar_4cfef_16 ?_
                                refine lv_iload (pc := 17) C0.1 C0.2.1 dJ1_indexOfChar_4cfef_17 (lv_at hl 1 rfl) ?_
                                refine lv_icmp_ne (pc := 19) (tgt := 25) C0.1 C0.2.1 dJ1_indexOfChar_4cfef_19 (by decide) (fun c15 => ?_) (fun c15 => ?_)
                                · have c15 : ¬ k = 60 := (by_eq k hk 15 (by decide)).2 (by rw [← ex1]; exact c15)
                                  refine lv_iinc (pc := 25) (v := 16) (lv' := [(5, .int 16), (4, .int x1), (0, .ref (tA 11)), (1, .int (nI k)), (2, .int 0), (3, .int 25)]) C0.1 C0.2.1 dJ1_indexOfChar_4cfef_25 hl (k := 0) rfl (by decide) (by decide) rfl (fun ls hl => ?_)
                                  refine lv_goto (pc := 28) (tgt := 7) C0.1 C0.2.1 dJ1_indexOfChar_4cfef_28 (by decide) ?_
                                  refine lv_iload (pc := 7) C0.1 C0.2.1 dJ1_indexOfChar_4cfef_7 (lv_at hl 0 rfl) ?_
                                  refine lv_iload_n (pc := 9) C0.1 C0.2.1 dJ1_indexOfChar_4cfef_9 rfl (lv_at hl 5 rfl) ?_
                                  refine lv_icmp_ge (pc := 10) (tgt := 31) C0.1 C0.2.1 dJ1_indexOfChar_4cfef_10 (by decide) (fun c => absurd c (by decide)) (fun _ => ?_)
                                  refine lv_aload_n (pc := 13) C0.1 C0.2.1 dJ1_indexOfChar_4cfef_13 rfl (lv_at hl 2 rfl) ?_
                                  refine lv_iload (pc := 14) C0.1 C0.2.1 dJ1_indexOfChar_4cfef_14 (lv_at hl 0 rfl) ?_
                                  refine va_tb (pc := 16) C0.1 C0.2.1 ((cxSK C0).1.1 0 (by decide)).2.2.2 (cxS C0 hS) (vin (by decide)) (v := .int (mkBy.getD 16 0)) rfl dJ1_indexOfChar_4cfef_16 ?_
                                  refine lv_iload (pc := 17) C0.1 C0.2.1 dJ1_indexOfChar_4cfef_17 (lv_at hl 1 rfl) ?_
                                  refine lv_icmp_ne (pc := 19) (tgt := 25) C0.1 C0.2.1 dJ1_indexOfChar_4cfef_19 (by decide) (fun c16 => ?_) (fun c16 => ?_)
                                  · have c16 : ¬ k = 61 := (by_eq k hk 16 (by decide)).2 (by rw [← ex1]; exact c16)
                                    refine lv_iinc (pc := 25) (v := 17) (lv' := [(5, .int 17), (4, .int x1), (0, .ref (tA 11)), (1, .int (nI k)), (2, .int 0), (3, .int 25)]) C0.1 C0.2.1 dJ1_indexOfChar_4cfef_25 hl (k := 0) rfl (by decide) (by decide) rfl (fun ls hl => ?_)
                                    refine lv_goto (pc := 28) (tgt := 7) C0.1 C0.2.1 dJ1_indexOfChar_4cfef_28 (by decide) ?_
                                    refine lv_iload (pc := 7) C0.1 C0.2.1 dJ1_indexOfChar_4cfef_7 (lv_at hl 0 rfl) ?_
                                    refine lv_iload_n (pc := 9) C0.1 C0.2.1 dJ1_indexOfChar_4cfef_9 rfl (lv_at hl 5 rfl) ?_
                                    refine lv_icmp_ge (pc := 10) (tgt := 31) C0.1 C0.2.1 dJ1_indexOfChar_4cfef_10 (by decide) (fun c => absurd c (by decide)) (fun _ => ?_)
                                    refine lv_aload_n (pc := 13) C0.1 C0.2.1 dJ1_indexOfChar_4cfef_13 rfl (lv_at hl 2 rfl) ?_
                                    refine lv_iload (pc := 14) C0.1 C0.2.1 dJ1_indexOfChar_4cfef_14 (lv_at hl 0 rfl) ?_
                                    refine va_tb (pc := 16) C0.1 C0.2.1 ((cxSK C0).1.1 0 (by decide)).2.2.2 (cxS C0 hS) (vin (by decide)) (v := .int (mkBy.getD 17 0)) rfl dJ1_indexOfChar_4cfef_16 ?_
                                    refine lv_iload (pc := 17) C0.1 C0.2.1 dJ1_indexOfChar_4cfef_17 (lv_at hl 1 rfl) ?_
                                    refine lv_icmp_ne (pc := 19) (tgt := 25) C0.1 C0.2.1 dJ1_indexOfChar_4cfef_19 (by decide) (fun c17 => ?_) (fun c17 => ?_)
                                    · have c17 : ¬ k = 62 := (by_eq k hk 17 (by decide)).2 (by rw [← ex1]; exact c17)
                                      refine lv_iinc (pc := 25) (v := 18) (lv' := [(5, .int 18), (4, .int x1), (0, .ref (tA 11)), (1, .int (nI k)), (2, .int 0), (3, .int 25)]) C0.1 C0.2.1 dJ1_indexOfChar_4cfef_25 hl (k := 0) rfl (by decide) (by decide) rfl (fun ls hl => ?_)
                                      refine lv_goto (pc := 28) (tgt := 7) C0.1 C0.2.1 dJ1_indexOfChar_4cfef_28 (by decide) ?_
                                      refine lv_iload (pc := 7) C0.1 C0.2.1 dJ1_indexOfChar_4cfef_7 (lv_at hl 0 rfl) ?_
                                      refine lv_iload_n (pc := 9) C0.1 C0.2.1 dJ1_indexOfChar_4cfef_9 rfl (lv_at hl 5 rfl) ?_
                                      refine lv_icmp_ge (pc := 10) (tgt := 31) C0.1 C0.2.1 dJ1_indexOfChar_4cfef_10 (by decide) (fun c => absurd c (by decide)) (fun _ => ?_)
                                      refine lv_aload_n (pc := 13) C0.1 C0.2.1 dJ1_indexOfChar_4cfef_13 rfl (lv_at hl 2 rfl) ?_
                                      refine lv_iload (pc := 14) C0.1 C0.2.1 dJ1_indexOfChar_4cfef_14 (lv_at hl 0 rfl) ?_
                                      refine va_tb (pc := 16) C0.1 C0.2.1 ((cxSK C0).1.1 0 (by decide)).2.2.2 (cxS C0 hS) (vin (by decide)) (v := .int (mkBy.getD 18 0)) rfl dJ1_indexOfChar_4cfef_16 ?_
                                      refine lv_iload (pc := 17) C0.1 C0.2.1 dJ1_indexOfChar_4cfef_17 (lv_at hl 1 rfl) ?_
                                      refine lv_icmp_ne (pc := 19) (tgt := 25) C0.1 C0.2.1 dJ1_indexOfChar_4cfef_19 (by decide) (fun c18 => ?_) (fun c18 => ?_)
                                      · have c18 : ¬ k = 63 := (by_eq k hk 18 (by decide)).2 (by rw [← ex1]; exact c18)
                                        refine lv_iinc (pc := 25) (v := 19) (lv' := [(5, .int 19), (4, .int x1), (0, .ref (tA 11)), (1, .int (nI k)), (2, .int 0), (3, .int 25)]) C0.1 C0.2.1 dJ1_indexOfChar_4cfef_25 hl (k := 0) rfl (by decide) (by decide) rfl (fun ls hl => ?_)
                                        refine lv_goto (pc := 28) (tgt := 7) C0.1 C0.2.1 dJ1_indexOfChar_4cfef_28 (by decide) ?_
                                        refine lv_iload (pc := 7) C0.1 C0.2.1 dJ1_indexOfChar_4cfef_7 (lv_at hl 0 rfl) ?_
                                        refine lv_iload_n (pc := 9) C0.1 C0.2.1 dJ1_indexOfChar_4cfef_9 rfl (lv_at hl 5 rfl) ?_
                                        refine lv_icmp_ge (pc := 10) (tgt := 31) C0.1 C0.2.1 dJ1_indexOfChar_4cfef_10 (by decide) (fun c => absurd c (by decide)) (fun _ => ?_)
                                        refine lv_aload_n (pc := 13) C0.1 C0.2.1 dJ1_indexOfChar_4cfef_13 rfl (lv_at hl 2 rfl) ?_
                                        refine lv_iload (pc := 14) C0.1 C0.2.1 dJ1_indexOfChar_4cfef_14 (lv_at hl 0 rfl) ?_
                                        refine va_tb (pc := 16) C0.1 C0.2.1 ((cxSK C0).1.1 0 (by decide)).2.2.2 (cxS C0 hS) (vin (by decide)) (v := .int (mkBy.getD 19 0)) rfl dJ1_indexOfChar_4cfef_16 ?_
                                        refine lv_iload (pc := 17) C0.1 C0.2.1 dJ1_indexOfChar_4cfef_17 (lv_at hl 1 rfl) ?_
                                        refine lv_icmp_ne (pc := 19) (tgt := 25) C0.1 C0.2.1 dJ1_indexOfChar_4cfef_19 (by decide) (fun c19 => ?_) (fun c19 => ?_)
                                        · have c19 : ¬ k = 64 := (by_eq k hk 19 (by decide)).2 (by rw [← ex1]; exact c19)
                                          refine lv_iinc (pc := 25) (v := 20) (lv' := [(5, .int 20), (4, .int x1), (0, .ref (tA 11)), (1, .int (nI k)), (2, .int 0), (3, .int 25)]) C0.1 C0.2.1 dJ1_indexOfChar_4cfef_25 hl (k := 0) rfl (by decide) (by decide) rfl (fun ls hl => ?_)
                                          refine lv_goto (pc := 28) (tgt := 7) C0.1 C0.2.1 dJ1_indexOfChar_4cfef_28 (by decide) ?_
                                          refine lv_iload (pc := 7) C0.1 C0.2.1 dJ1_indexOfChar_4cfef_7 (lv_at hl 0 rfl) ?_
                                          refine lv_iload_n (pc := 9) C0.1 C0.2.1 dJ1_indexOfChar_4cfef_9 rfl (lv_at hl 5 rfl) ?_
                                          refine lv_icmp_ge (pc := 10) (tgt := 31) C0.1 C0.2.1 dJ1_indexOfChar_4cfef_10 (by decide) (fun c => absurd c (by decide)) (fun _ => ?_)
                                          refine lv_aload_n (pc := 13) C0.1 C0.2.1 dJ1_indexOfChar_4cfef_13 rfl (lv_at hl 2 rfl) ?_
                                          refine lv_iload (pc := 14) C0.1 C0.2.1 dJ1_indexOfChar_4cfef_14 (lv_at hl 0 rfl) ?_
                                          refine va_tb (pc := 16) C0.1 C0.2.1 ((cxSK C0).1.1 0 (by decide)).2.2.2 (cxS C0 hS) (vin (by decide)) (v := .int (mkBy.getD 20 0)) rfl dJ1_indexOfChar_4cfef_16 ?_
                                          refine lv_iload (pc := 17) C0.1 C0.2.1 dJ1_indexOfChar_4cfef_17 (lv_at hl 1 rfl) ?_
                                          refine lv_icmp_ne (pc := 19) (tgt := 25) C0.1 C0.2.1 dJ1_indexOfChar_4cfef_19 (by decide) (fun c20 => ?_) (fun c20 => ?_)
                                          · have c20 : ¬ k = 91 := (by_eq k hk 20 (by decide)).2 (by rw [← ex1]; exact c20)
                                            refine lv_iinc (pc := 25) (v := 21) (lv' := [(5, .int 21), (4, .int x1), (0, .ref (tA 11)), (1, .int (nI k)), (2, .int 0), (3, .int 25)]) C0.1 C0.2.1 dJ1_indexOfChar_4cfef_25 hl (k := 0) rfl (by decide) (by decide) rfl (fun ls hl => ?_)
                                            refine lv_goto (pc := 28) (tgt := 7) C0.1 C0.2.1 dJ1_indexOfChar_4cfef_28 (by decide) ?_
                                            refine lv_iload (pc := 7) C0.1 C0.2.1 dJ1_indexOfChar_4cfef_7 (lv_at hl 0 rfl) ?_
                                            refine lv_iload_n (pc := 9) C0.1 C0.2.1 dJ1_indexOfChar_4cfef_9 rfl (lv_at hl 5 rfl) ?_
                                            refine lv_icmp_ge (pc := 10) (tgt := 31) C0.1 C0.2.1 dJ1_indexOfChar_4cfef_10 (by decide) (fun c => absurd c (by decide)) (fun _ => ?_)
                                            refine lv_aload_n (pc := 13) C0.1 C0.2.1 dJ1_indexOfChar_4cfef_13 rfl (lv_at hl 2 rfl) ?_
                                            refine lv_iload (pc := 14) C0.1 C0.2.1 dJ1_indexOfChar_4cfef_14 (lv_at hl 0 rfl) ?_
                                            refine va_tb (pc := 16) C0.1 C0.2.1 ((cxSK C0).1.1 0 (by decide)).2.2.2 (cxS C0 hS) (vin (by decide)) (v := .int (mkBy.getD 21 0)) rfl dJ1_indexOfChar_4cfef_16 ?_
                                            refine lv_iload (pc := 17) C0.1 C0.2.1 dJ1_indexOfChar_4cfef_17 (lv_at hl 1 rfl) ?_
                                            refine lv_icmp_ne (pc := 19) (tgt := 25) C0.1 C0.2.1 dJ1_indexOfChar_4cfef_19 (by decide) (fun c21 => ?_) (fun c21 => ?_)
                                            · have c21 : ¬ k = 93 := (by_eq k hk 21 (by decide)).2 (by rw [← ex1]; exact c21)
                                              refine lv_iinc (pc := 25) (v := 22) (lv' := [(5, .int 22), (4, .int x1), (0, .ref (tA 11)), (1, .int (nI k)), (2, .int 0), (3, .int 25)]) C0.1 C0.2.1 dJ1_indexOfChar_4cfef_25 hl (k := 0) rfl (by decide) (by decide) rfl (fun ls hl => ?_)
                                              refine lv_goto (pc := 28) (tgt := 7) C0.1 C0.2.1 dJ1_indexOfChar_4cfef_28 (by decide) ?_
                                              refine lv_iload (pc := 7) C0.1 C0.2.1 dJ1_indexOfChar_4cfef_7 (lv_at hl 0 rfl) ?_
                                              refine lv_iload_n (pc := 9) C0.1 C0.2.1 dJ1_indexOfChar_4cfef_9 rfl (lv_at hl 5 rfl) ?_
                                              refine lv_icmp_ge (pc := 10) (tgt := 31) C0.1 C0.2.1 dJ1_indexOfChar_4cfef_10 (by decide) (fun c => absurd c (by decide)) (fun _ => ?_)
                                              refine lv_aload_n (pc := 13) C0.1 C0.2.1 dJ1_indexOfChar_4cfef_13 rfl (lv_at hl 2 rfl) ?_
                                              refine lv_iload (pc := 14) C0.1 C0.2.1 dJ1_indexOfChar_4cfef_14 (lv_at hl 0 rfl) ?_
                                              refine va_tb (pc := 16) C0.1 C0.2.1 ((cxSK C0).1.1 0 (by decide)).2.2.2 (cxS C0 hS) (vin (by decide)) (v := .int (mkBy.getD 22 0)) rfl dJ1_indexOfChar_4cfef_16 ?_
                                              refine lv_iload (pc := 17) C0.1 C0.2.1 dJ1_indexOfChar_4cfef_17 (lv_at hl 1 rfl) ?_
                                              refine lv_icmp_ne (pc := 19) (tgt := 25) C0.1 C0.2.1 dJ1_indexOfChar_4cfef_19 (by decide) (fun c22 => ?_) (fun c22 => ?_)
                                              · have c22 : ¬ k = 94 := (by_eq k hk 22 (by decide)).2 (by rw [← ex1]; exact c22)
                                                refine lv_iinc (pc := 25) (v := 23) (lv' := [(5, .int 23), (4, .int x1), (0, .ref (tA 11)), (1, .int (nI k)), (2, .int 0), (3, .int 25)]) C0.1 C0.2.1 dJ1_indexOfChar_4cfef_25 hl (k := 0) rfl (by decide) (by decide) rfl (fun ls hl => ?_)
                                                refine lv_goto (pc := 28) (tgt := 7) C0.1 C0.2.1 dJ1_indexOfChar_4cfef_28 (by decide) ?_
                                                refine lv_iload (pc := 7) C0.1 C0.2.1 dJ1_indexOfChar_4cfef_7 (lv_at hl 0 rfl) ?_
                                                refine lv_iload_n (pc := 9) C0.1 C0.2.1 dJ1_indexOfChar_4cfef_9 rfl (lv_at hl 5 rfl) ?_
                                                refine lv_icmp_ge (pc := 10) (tgt := 31) C0.1 C0.2.1 dJ1_indexOfChar_4cfef_10 (by decide) (fun c => absurd c (by decide)) (fun _ => ?_)
                                                refine lv_aload_n (pc := 13) C0.1 C0.2.1 dJ1_indexOfChar_4cfef_13 rfl (lv_at hl 2 rfl) ?_
                                                refine lv_iload (pc := 14) C0.1 C0.2.1 dJ1_indexOfChar_4cfef_14 (lv_at hl 0 rfl) ?_
                                                refine va_tb (pc := 16) C0.1 C0.2.1 ((cxSK C0).1.1 0 (by decide)).2.2.2 (cxS C0 hS) (vin (by decide)) (v := .int (mkBy.getD 23 0)) rfl dJ1_indexOfChar_4cfef_16 ?_
                                                refine lv_iload (pc := 17) C0.1 C0.2.1 dJ1_indexOfChar_4cfef_17 (lv_at hl 1 rfl) ?_
                                                refine lv_icmp_ne (pc := 19) (tgt := 25) C0.1 C0.2.1 dJ1_indexOfChar_4cfef_19 (by decide) (fun c23 => ?_) (fun c23 => ?_)
                                                · have c23 : ¬ k = 95 := (by_eq k hk 23 (by decide)).2 (by rw [← ex1]; exact c23)
                                                  refine lv_iinc (pc := 25) (v := 24) (lv' := [(5, .int 24), (4, .int x1), (0, .ref (tA 11)), (1, .int (nI k)), (2, .int 0), (3, .int 25)]) C0.1 C0.2.1 dJ1_indexOfChar_4cfef_25 hl (k := 0) rfl (by decide) (by decide) rfl (fun ls hl => ?_)
                                                  refine lv_goto (pc := 28) (tgt := 7) C0.1 C0.2.1 dJ1_indexOfChar_4cfef_28 (by decide) ?_
                                                  refine lv_iload (pc := 7) C0.1 C0.2.1 dJ1_indexOfChar_4cfef_7 (lv_at hl 0 rfl) ?_
                                                  refine lv_iload_n (pc := 9) C0.1 C0.2.1 dJ1_indexOfChar_4cfef_9 rfl (lv_at hl 5 rfl) ?_
                                                  refine lv_icmp_ge (pc := 10) (tgt := 31) C0.1 C0.2.1 dJ1_indexOfChar_4cfef_10 (by decide) (fun c => absurd c (by decide)) (fun _ => ?_)
                                                  refine lv_aload_n (pc := 13) C0.1 C0.2.1 dJ1_indexOfChar_4cfef_13 rfl (lv_at hl 2 rfl) ?_
                                                  refine lv_iload (pc := 14) C0.1 C0.2.1 dJ1_indexOfChar_4cfef_14 (lv_at hl 0 rfl) ?_
                                                  refine va_tb (pc := 16) C0.1 C0.2.1 ((cxSK C0).1.1 0 (by decide)).2.2.2 (cxS C0 hS) (vin (by decide)) (v := .int (mkBy.getD 24 0)) rfl dJ1_indexOfChar_4cfef_16 ?_
                                                  refine lv_iload (pc := 17) C0.1 C0.2.1 dJ1_indexOfChar_4cfef_17 (lv_at hl 1 rfl) ?_
                                                  refine lv_icmp_ne (pc := 19) (tgt := 25) C0.1 C0.2.1 dJ1_indexOfChar_4cfef_19 (by decide) (fun c24 => ?_) (fun c24 => ?_)
                                                  · have c24 : ¬ k = 124 := (by_eq k hk 24 (by decide)).2 (by rw [← ex1]; exact c24)
                                                    refine lv_iinc (pc := 25) (v := 25) (lv' := [(5, .int 25), (4, .int x1), (0, .ref (tA 11)), (1, .int (nI k)), (2, .int 0), (3, .int 25)]) C0.1 C0.2.1 dJ1_indexOfChar_4cfef_25 hl (k := 0) rfl (by decide) (by decide) rfl (fun ls hl => ?_)
                                                    refine lv_goto (pc := 28) (tgt := 7) C0.1 C0.2.1 dJ1_indexOfChar_4cfef_28 (by decide) ?_
                                                    refine lv_iload (pc := 7) C0.1 C0.2.1 dJ1_indexOfChar_4cfef_7 (lv_at hl 0 rfl) ?_
                                                    refine lv_iload_n (pc := 9) C0.1 C0.2.1 dJ1_indexOfChar_4cfef_9 rfl (lv_at hl 5 rfl) ?_
                                                    refine lv_icmp_ge (pc := 10) (tgt := 31) C0.1 C0.2.1 dJ1_indexOfChar_4cfef_10 (by decide) (fun _ => ?_) (fun c => absurd (by decide) c)
                                                    refine lv_iconst (pc := 31) (v := (-1)) C0.1 C0.2.1 dJ1_indexOfChar_4cfef_31 (by decide) ?_
                                                    exact xiret (pc := 32) C0 hr hH hS dJ1_indexOfChar_4cfef_32 ⟨rfl, by unfold ix; simp only [*, if_true, if_false]; try rfl⟩
                                                  · have c24 : k = 124 := (by_eq k hk 24 (by decide)).1 (by rw [← ex1]; exact c24)
                                                    refine lv_iload (pc := 22) C0.1 C0.2.1 dJ1_indexOfChar_4cfef_22 (lv_at hl 0 rfl) ?_
                                                    exact xiret (pc := 24) C0 hr hH hS dJ1_indexOfChar_4cfef_24 ⟨rfl, by unfold ix; simp only [*, if_true, if_false]; try rfl⟩
                                                · have c23 : k = 95 := (by_eq k hk 23 (by decide)).1 (by rw [← ex1]; exact c23)
                                                  refine lv_iload (pc := 22) C0.1 C0.2.1 dJ1_indexOfChar_4cfef_22 (lv_at hl 0 rfl) ?_
                                                  exact xiret (pc := 24) C0 hr hH hS dJ1_indexOfChar_4cfef_24 ⟨rfl, by unfold ix; simp only [*, if_true, if_false]; try rfl⟩
                                              · have c22 : k = 94 := (by_eq k hk 22 (by decide)).1 (by rw [← ex1]; exact c22)
                                                refine lv_iload (pc := 22) C0.1 C0.2.1 dJ1_indexOfChar_4cfef_22 (lv_at hl 0 rfl) ?_
                                                exact xiret (pc := 24) C0 hr hH hS dJ1_indexOfChar_4cfef_24 ⟨rfl, by unfold ix; simp only [*, if_true, if_false]; try rfl⟩
                                            · have c21 : k = 93 := (by_eq k hk 21 (by decide)).1 (by rw [← ex1]; exact c21)
                                              refine lv_iload (pc := 22) C0.1 C0.2.1 dJ1_indexOfChar_4cfef_22 (lv_at hl 0 rfl) ?_
                                              exact xiret (pc := 24) C0 hr hH hS dJ1_indexOfChar_4cfef_24 ⟨rfl, by unfold ix; simp only [*, if_true, if_false]; try rfl⟩
                                          · have c20 : k = 91 := (by_eq k hk 20 (by decide)).1 (by rw [← ex1]; exact c20)
                                            refine lv_iload (pc := 22) C0.1 C0.2.1 dJ1_indexOfChar_4cfef_22 (lv_at hl 0 rfl) ?_
                                            exact xiret (pc := 24) C0 hr hH hS dJ1_indexOfChar_4cfef_24 ⟨rfl, by unfold ix; simp only [*, if_true, if_false]; try rfl⟩
                                        · have c19 : k = 64 := (by_eq k hk 19 (by decide)).1 (by rw [← ex1]; exact c19)
                                          refine lv_iload (pc := 22) C0.1 C0.2.1 dJ1_indexOfChar_4cfef_22 (lv_at hl 0 rfl) ?_
                                          exact xiret (pc := 24) C0 hr hH hS dJ1_indexOfChar_4cfef_24 ⟨rfl, by unfold ix; simp only [*, if_true, if_false]; try rfl⟩
                                      · have c18 : k = 63 := (by_eq k hk 18 (by decide)).1 (by rw [← ex1]; exact c18)
                                        refine lv_iload (pc := 22) C0.1 C0.2.1 dJ1_indexOfChar_4cfef_22 (lv_at hl 0 rfl) ?_
                                        exact xiret (pc := 24) C0 hr hH hS dJ1_indexOfChar_4cfef_24 ⟨rfl, by unfold ix; simp only [*, if_true, if_false]; try rfl⟩
                                    · have c17 : k = 62 := (by_eq k hk 17 (by decide)).1 (by rw [← ex1]; exact c17)
                                      refine lv_iload (pc := 22) C0.1 C0.2.1 dJ1_indexOfChar_4cfef_22 (lv_at hl 0 rfl) ?_
                                      exact xiret (pc := 24) C0 hr hH hS dJ1_indexOfChar_4cfef_24 ⟨rfl, by unfold ix; simp only [*, if_true, if_false]; try rfl⟩
                                  · have c16 : k = 61 := (by_eq k hk 16 (by decide)).1 (by rw [← ex1]; exact c16)
                                    refine lv_iload (pc := 22) C0.1 C0.2.1 dJ1_indexOfChar_4cfef_22 (lv_at hl 0 rfl) ?_
                                    exact xiret (pc := 24) C0 hr hH hS dJ1_indexOfChar_4cfef_24 ⟨rfl, by unfold ix; simp only [*, if_true, if_false]; try rfl⟩
                                · have c15 : k = 60 := (by_eq k hk 15 (by decide)).1 (by rw [← ex1]; exact c15)
                                  refine lv_iload (pc := 22) C0.1 C0.2.1 dJ1_indexOfChar_4cfef_22 (lv_at hl 0 rfl) ?_
                                  exact xiret (pc := 24) C0 hr hH hS dJ1_indexOfChar_4cfef_24 ⟨rfl, by unfold ix; simp only [*, if_true, if_false]; try rfl⟩
                              · have c14 : k = 59 := (by_eq k hk 14 (by decide)).1 (by rw [← ex1]; exact c14)
                                refine lv_iload (pc := 22) C0.1 C0.2.1 dJ1_indexOfChar_4cfef_22 (lv_at hl 0 rfl) ?_
                                exact xiret (pc := 24) C0 hr hH hS dJ1_indexOfChar_4cfef_24 ⟨rfl, by unfold ix; simp only [*, if_true, if_false]; try rfl⟩
                            · have c13 : k = 58 := (by_eq k hk 13 (by decide)).1 (by rw [← ex1]; exact c13)
                              refine lv_iload (pc := 22) C0.1 C0.2.1 dJ1_indexOfChar_4cfef_22 (lv_at hl 0 rfl) ?_
                              exact xiret (pc := 24) C0 hr hH hS dJ1_indexOfChar_4cfef_24 ⟨rfl, by unfold ix; simp only [*, if_true, if_false]; try rfl⟩
                          · have c12 : k = 47 := (by_eq k hk 12 (by decide)).1 (by rw [← ex1]; exact c12)
                            refine lv_iload (pc := 22) C0.1 C0.2.1 dJ1_indexOfChar_4cfef_22 (lv_at hl 0 rfl) ?_
                            exact xiret (pc := 24) C0 hr hH hS dJ1_indexOfChar_4cfef_24 ⟨rfl, by unfold ix; simp only [*, if_true, if_false]; try rfl⟩
                        · have c11 : k = 46 := (by_eq k hk 11 (by decide)).1 (by rw [← ex1]; exact c11)
                          refine lv_iload (pc := 22) C0.1 C0.2.1 dJ1_indexOfChar_4cfef_22 (lv_at hl 0 rfl) ?_
                          exact xiret (pc := 24) C0 hr hH hS dJ1_indexOfChar_4cfef_24 ⟨rfl, by unfold ix; simp only [*, if_true, if_false]; try rfl⟩
                      · have c10 : k = 45 := (by_eq k hk 10 (by decide)).1 (by rw [← ex1]; exact c10)
                        refine lv_iload (pc := 22) C0.1 C0.2.1 dJ1_indexOfChar_4cfef_22 (lv_at hl 0 rfl) ?_
                        exact xiret (pc := 24) C0 hr hH hS dJ1_indexOfChar_4cfef_24 ⟨rfl, by unfold ix; simp only [*, if_true, if_false]; try rfl⟩
                    · have c9 : k = 44 := (by_eq k hk 9 (by decide)).1 (by rw [← ex1]; exact c9)
                      refine lv_iload (pc := 22) C0.1 C0.2.1 dJ1_indexOfChar_4cfef_22 (lv_at hl 0 rfl) ?_
                      exact xiret (pc := 24) C0 hr hH hS dJ1_indexOfChar_4cfef_24 ⟨rfl, by unfold ix; simp only [*, if_true, if_false]; try rfl⟩
                  · have c8 : k = 43 := (by_eq k hk 8 (by decide)).1 (by rw [← ex1]; exact c8)
                    refine lv_iload (pc := 22) C0.1 C0.2.1 dJ1_indexOfChar_4cfef_22 (lv_at hl 0 rfl) ?_
                    exact xiret (pc := 24) C0 hr hH hS dJ1_indexOfChar_4cfef_24 ⟨rfl, by unfold ix; simp only [*, if_true, if_false]; try rfl⟩
                · have c7 : k = 42 := (by_eq k hk 7 (by decide)).1 (by rw [← ex1]; exact c7)
                  refine lv_iload (pc := 22) C0.1 C0.2.1 dJ1_indexOfChar_4cfef_22 (lv_at hl 0 rfl) ?_
                  exact xiret (pc := 24) C0 hr hH hS dJ1_indexOfChar_4cfef_24 ⟨rfl, by unfold ix; simp only [*, if_true, if_false]; try rfl⟩
              · have c6 : k = 41 := (by_eq k hk 6 (by decide)).1 (by rw [← ex1]; exact c6)
                refine lv_iload (pc := 22) C0.1 C0.2.1 dJ1_indexOfChar_4cfef_22 (lv_at hl 0 rfl) ?_
                exact xiret (pc := 24) C0 hr hH hS dJ1_indexOfChar_4cfef_24 ⟨rfl, by unfold ix; simp only [*, if_true, if_false]; try rfl⟩
            · have c5 : k = 40 := (by_eq k hk 5 (by decide)).1 (by rw [← ex1]; exact c5)
              refine lv_iload (pc := 22) C0.1 C0.2.1 dJ1_indexOfChar_4cfef_22 (lv_at hl 0 rfl) ?_
              exact xiret (pc := 24) C0 hr hH hS dJ1_indexOfChar_4cfef_24 ⟨rfl, by unfold ix; simp only [*, if_true, if_false]; try rfl⟩
          · have c4 : k = 38 := (by_eq k hk 4 (by decide)).1 (by rw [← ex1]; exact c4)
            refine lv_iload (pc := 22) C0.1 C0.2.1 dJ1_indexOfChar_4cfef_22 (lv_at hl 0 rfl) ?_
            exact xiret (pc := 24) C0 hr hH hS dJ1_indexOfChar_4cfef_24 ⟨rfl, by unfold ix; simp only [*, if_true, if_false]; try rfl⟩
        · have c3 : k = 37 := (by_eq k hk 3 (by decide)).1 (by rw [← ex1]; exact c3)
          refine lv_iload (pc := 22) C0.1 C0.2.1 dJ1_indexOfChar_4cfef_22 (lv_at hl 0 rfl) ?_
          exact xiret (pc := 24) C0 hr hH hS dJ1_indexOfChar_4cfef_24 ⟨rfl, by unfold ix; simp only [*, if_true, if_false]; try rfl⟩
      · have c2 : k = 36 := (by_eq k hk 2 (by decide)).1 (by rw [← ex1]; exact c2)
        refine lv_iload (pc := 22) C0.1 C0.2.1 dJ1_indexOfChar_4cfef_22 (lv_at hl 0 rfl) ?_
        exact xiret (pc := 24) C0 hr hH hS dJ1_indexOfChar_4cfef_24 ⟨rfl, by unfold ix; simp only [*, if_true, if_false]; try rfl⟩
    · have c1 : k = 34 := (by_eq k hk 1 (by decide)).1 (by rw [← ex1]; exact c1)
      refine lv_iload (pc := 22) C0.1 C0.2.1 dJ1_indexOfChar_4cfef_22 (lv_at hl 0 rfl) ?_
      exact xiret (pc := 24) C0 hr hH hS dJ1_indexOfChar_4cfef_24 ⟨rfl, by unfold ix; simp only [*, if_true, if_false]; try rfl⟩
  · have c0 : k = 33 := (by_eq k hk 0 (by decide)).1 (by rw [← ex1]; exact c0)
    refine lv_iload (pc := 22) C0.1 C0.2.1 dJ1_indexOfChar_4cfef_22 (lv_at hl 0 rfl) ?_
    exact xiret (pc := 24) C0 hr hH hS dJ1_indexOfChar_4cfef_24 ⟨rfl, by unfold ix; simp only [*, if_true, if_false]; try rfl⟩
set_option maxHeartbeats 4000000 in
set_option maxRecDepth 100000 in
theorem c_J1_indexOf (l : Launch) (D : va_G) (tA : Nat → ClassId) (b : Nat) (o n : Nat) (i F : Nat → Nat → Int32) (G : Nat → Nat → Int64) (k : Nat) (hk : k < 256) : xMI l yJ1_indexOf_4cfef cJ1_indexOf_4cfef 4 (some .int) 1 25 D tA b o n i F G [.ref (tA 11), .int (nI k), .int 0, .int 25] (fun r u => u = (i, F, G) ∧ r = ix k) := by
  refine xstart RJ1 rfl (by decide) (Nat.le_of_ble_eq_true rfl) ?_
  intro p e s m below meth c ls C0 hr hH hS hl
  have hl : lv_has ls 4 [(0, .ref (tA 11)), (1, .int (nI k)), (2, .int 0), (3, .int 25)] := hl
  refine lv_iload_n (pc := 0) C0.1 C0.2.1 dJ1_indexOf_4cfef_0 rfl (lv_at hl 1 rfl) ?_
  refine xcSI (pc := 1) [.int (nI k)] (c_J1_canEncode l D tA b o n i F G k hk) C0 hH hS cw_J1_88 rfl ⟨Nat.le_of_ble_eq_true rfl, Nat.le_of_ble_eq_true rfl⟩ hl.1 rfl (Nat.le_of_ble_eq_true rfl) dJ1_indexOf_4cfef_1 ⟨Nat.le_of_ble_eq_true rfl, Nat.le_of_ble_eq_true rfl⟩ (fun r1 ir1 Fr1 Gr1 _ locs hp hH hS => ?_)
  obtain ⟨hu, rfl⟩ := hp
  cases hu
  refine lv_if_ne (pc := 4) (tgt := 9) C0.1 C0.2.1 dJ1_indexOf_4cfef_4 (by decide) (fun _ => ?_) (fun c => absurd c (by decide))
  refine lv_iload_n (pc := 9) C0.1 C0.2.1 dJ1_indexOf_4cfef_9 rfl (lv_at hl 2 rfl) ?_
  refine lv_iconst (pc := 10) (v := 0) C0.1 C0.2.1 dJ1_indexOf_4cfef_10 (by decide) ?_
  refine va_mmax (pc := 11) C0.1 C0.2.1 (C0.2.2.1.trans hl.1.symm) C0.2.2.2.1 (C0.2.2.2.2.1 _ mm_J1_92.1) (C0.2.2.2.2.1 _ mm_J1_92.2.1) (C0.2.2.2.2.1 _ mm_J1_92.2.2.1) (C0.2.2.2.2.1 _ mm_J1_92.2.2.2) (Nat.le_of_ble_eq_true rfl) (Nat.le_of_ble_eq_true rfl) (Nat.le_of_ble_eq_true rfl) (Nat.le_of_ble_eq_true rfl) dJ1_indexOf_4cfef_11 ?_
  refine lv_topi (fun q2 eq2 => ?_)
  obtain rfl : q2 = 0 := eq2.trans (by decide)
  refine lv_istore_n (pc := 14) (lv' := [(2, .int 0), (0, .ref (tA 11)), (1, .int (nI k)), (3, .int 25)]) C0.1 C0.2.1 dJ1_indexOf_4cfef_14 rfl hl (by decide) rfl (fun ls hl => ?_)
  refine lv_iload_n (pc := 15) C0.1 C0.2.1 dJ1_indexOf_4cfef_15 rfl (lv_at hl 3 rfl) ?_
  refine lv_aload_n (pc := 16) C0.1 C0.2.1 dJ1_indexOf_4cfef_16 rfl (lv_at hl 1 rfl) ?_
  refine va_tlen (pc := 17) C0.1 C0.2.1 ((cxSK C0).1.1 0 (by decide)).2.2.2 (cxS C0 hS) (v := 25) rfl dJ1_indexOf_4cfef_17 ?_
  refine va_mmin (pc := 18) C0.1 C0.2.1 (C0.2.2.1.trans hl.1.symm) C0.2.2.2.1 (C0.2.2.2.2.1 _ mm_J1_38.1) (C0.2.2.2.2.1 _ mm_J1_38.2.1) (C0.2.2.2.2.1 _ mm_J1_38.2.2.1) (C0.2.2.2.2.1 _ mm_J1_38.2.2.2) (Nat.le_of_ble_eq_true rfl) (Nat.le_of_ble_eq_true rfl) (Nat.le_of_ble_eq_true rfl) (Nat.le_of_ble_eq_true rfl) dJ1_indexOf_4cfef_18 ?_
  refine lv_topi (fun q3 eq3 => ?_)
  obtain rfl : q3 = 25 := eq3.trans (by decide)
  refine lv_istore_n (pc := 21) (lv' := [(3, .int 25), (2, .int 0), (0, .ref (tA 11)), (1, .int (nI k))]) C0.1 C0.2.1 dJ1_indexOf_4cfef_21 rfl hl (by decide) rfl (fun ls hl => ?_)
  refine lv_iload_n (pc := 22) C0.1 C0.2.1 dJ1_indexOf_4cfef_22 rfl (lv_at hl 1 rfl) ?_
  refine lv_iload_n (pc := 23) C0.1 C0.2.1 dJ1_indexOf_4cfef_23 rfl (lv_at hl 0 rfl) ?_
  refine lv_icmp_lt (pc := 24) (tgt := 29) C0.1 C0.2.1 dJ1_indexOf_4cfef_24 (by decide) (fun _ => ?_) (fun c => absurd (by decide) c)
  refine lv_aload_n (pc := 29) C0.1 C0.2.1 dJ1_indexOf_4cfef_29 rfl (lv_at hl 2 rfl) ?_
  refine lv_iload_n (pc := 30) C0.1 C0.2.1 dJ1_indexOf_4cfef_30 rfl (lv_at hl 3 rfl) ?_
  refine lv_iload_n (pc := 31) C0.1 C0.2.1 dJ1_indexOf_4cfef_31 rfl (lv_at hl 1 rfl) ?_
  refine lv_iload_n (pc := 32) C0.1 C0.2.1 dJ1_indexOf_4cfef_32 rfl (lv_at hl 0 rfl) ?_
  refine xcSI (pc := 33) [.ref (tA 11), .int (nI k), .int 0, .int 25] (c_J1_indexOfChar l D tA b o n i F G k hk) C0 hH hS cw_J1_95 rfl ⟨Nat.le_of_ble_eq_true rfl, Nat.le_of_ble_eq_true rfl⟩ hl.1 rfl (Nat.le_of_ble_eq_true rfl) dJ1_indexOf_4cfef_33 ⟨Nat.le_of_ble_eq_true rfl, Nat.le_of_ble_eq_true rfl⟩ (fun r4 ir4 Fr4 Gr4 _ locs hp hH hS => ?_)
  obtain ⟨hu, rfl⟩ := hp
  cases hu
  exact xiret (pc := 36) C0 hr hH hS dJ1_indexOf_4cfef_36 ⟨rfl, rfl⟩
set_option maxHeartbeats 4000000 in
set_option maxRecDepth 100000 in
theorem c_J0_indexOf2 (l : Launch) (D : va_G) (tA : Nat → ClassId) (b : Nat) (o n : Nat) (i F : Nat → Nat → Int32) (G : Nat → Nat → Int64) (k : Nat) (hk : k < 256) : xMI l yJ0_indexOf_7cf53 cJ0_indexOf_7cf53 3 (some .int) 2 48 D tA b o n i F G [.ref (tA 10), .int (nI k), .int 0] (fun r u => u = (i, F, G) ∧ r = ix k) := by
  refine xstart RJ0 rfl (by decide) (Nat.le_of_ble_eq_true rfl) ?_
  intro p e s m below meth c ls C0 hr hH hS hl
  have hl : lv_has ls 3 [(0, .ref (tA 10)), (1, .int (nI k)), (2, .int 0)] := hl
  refine lv_aload_n (pc := 0) C0.1 C0.2.1 dJ0_indexOf_7cf53_0 rfl (lv_at hl 0 rfl) ?_
  refine xcVS (pc := 1) [] (c_J0_isLatin1 l D tA b o n i F G ) C0 hH hS rfl cw_J0_492 rfl ⟨Nat.le_of_ble_eq_true rfl, Nat.le_of_ble_eq_true rfl⟩ hl.1 rfl (Nat.le_of_ble_eq_true rfl) dJ0_indexOf_7cf53_1 ⟨Nat.le_of_ble_eq_true rfl, Nat.le_of_ble_eq_true rfl⟩ (fun r1 ir1 Fr1 Gr1 _ locs hp hH hS => ?_)
  obtain ⟨hu, rfl⟩ := hp
  cases hu
  refine lv_if_eq (pc := 4) (tgt := 23) C0.1 C0.2.1 dJ0_indexOf_7cf53_4 (by decide) (fun c => absurd c (by decide)) (fun _ => ?_)
  refine lv_aload_n (pc := 7) C0.1 C0.2.1 dJ0_indexOf_7cf53_7 rfl (lv_at hl 0 rfl) ?_
  refine vk_getf (pc := 8) C0.1 C0.2.1 ((cxSK C0).1.1 0 (by decide)).2.2.1 (cxS C0 hS) C0.2.2.2.1 (C0.2.2.2.2.1 _ fs_J0_9) (fun _ h => h) dJ0_indexOf_7cf53_8 ?_
  refine lv_iload_n (pc := 11) C0.1 C0.2.1 dJ0_indexOf_7cf53_11 rfl (lv_at hl 1 rfl) ?_
  refine lv_iload_n (pc := 12) C0.1 C0.2.1 dJ0_indexOf_7cf53_12 rfl (lv_at hl 2 rfl) ?_
  refine lv_aload_n (pc := 13) C0.1 C0.2.1 dJ0_indexOf_7cf53_13 rfl (lv_at hl 0 rfl) ?_
  refine xcVS (pc := 14) [] (c_J0_length l D tA b o n i F G ) C0 hH hS rfl cw_J0_505 rfl ⟨Nat.le_of_ble_eq_true rfl, Nat.le_of_ble_eq_true rfl⟩ hl.1 rfl (Nat.le_of_ble_eq_true rfl) dJ0_indexOf_7cf53_14 ⟨Nat.le_of_ble_eq_true rfl, Nat.le_of_ble_eq_true rfl⟩ (fun r2 ir2 Fr2 Gr2 _ locs hp hH hS => ?_)
  obtain ⟨hu, rfl⟩ := hp
  cases hu
  refine xcSI (pc := 17) [.ref (tA 11), .int (nI k), .int 0, .int 25] (c_J1_indexOf l D tA b o n i F G k hk) C0 hH hS cw_J0_637 rfl ⟨Nat.le_of_ble_eq_true rfl, Nat.le_of_ble_eq_true rfl⟩ hl.1 rfl (Nat.le_of_ble_eq_true rfl) dJ0_indexOf_7cf53_17 ⟨Nat.le_of_ble_eq_true rfl, Nat.le_of_ble_eq_true rfl⟩ (fun r3 ir3 Fr3 Gr3 _ locs hp hH hS => ?_)
  obtain ⟨hu, rfl⟩ := hp
  cases hu
  refine lv_goto (pc := 20) (tgt := 36) C0.1 C0.2.1 dJ0_indexOf_7cf53_20 (by decide) ?_
  exact xiret (pc := 36) C0 hr hH hS dJ0_indexOf_7cf53_36 ⟨rfl, rfl⟩
set_option maxHeartbeats 4000000 in
set_option maxRecDepth 100000 in
theorem c_J0_indexOf1 (l : Launch) (D : va_G) (tA : Nat → ClassId) (b : Nat) (o n : Nat) (i F : Nat → Nat → Int32) (G : Nat → Nat → Int64) (k : Nat) (hk : k < 256) : xMI l yJ0_indexOf_0f7a4 cJ0_indexOf_0f7a4 2 (some .int) 3 70 D tA b o n i F G [.ref (tA 10), .int (nI k)] (fun r u => u = (i, F, G) ∧ r = ix k) := by
  refine xstart RJ0 rfl (by decide) (Nat.le_of_ble_eq_true rfl) ?_
  intro p e s m below meth c ls C0 hr hH hS hl
  have hl : lv_has ls 2 [(0, .ref (tA 10)), (1, .int (nI k))] := hl
  refine lv_aload_n (pc := 0) C0.1 C0.2.1 dJ0_indexOf_0f7a4_0 rfl (lv_at hl 0 rfl) ?_
  refine lv_iload_n (pc := 1) C0.1 C0.2.1 dJ0_indexOf_0f7a4_1 rfl (lv_at hl 1 rfl) ?_
  refine lv_iconst (pc := 2) (v := 0) C0.1 C0.2.1 dJ0_indexOf_0f7a4_2 (by decide) ?_
  refine xcVS (pc := 3) [.int (nI k), .int 0] (c_J0_indexOf2 l D tA b o n i F G k hk) C0 hH hS rfl cw_J0_633 rfl ⟨Nat.le_of_ble_eq_true rfl, Nat.le_of_ble_eq_true rfl⟩ hl.1 rfl (Nat.le_of_ble_eq_true rfl) dJ0_indexOf_0f7a4_3 ⟨Nat.le_of_ble_eq_true rfl, Nat.le_of_ble_eq_true rfl⟩ (fun r1 ir1 Fr1 Gr1 _ locs hp hH hS => ?_)
  obtain ⟨hu, rfl⟩ := hp
  cases hu
  exact xiret (pc := 6) C0 hr hH hS dJ0_indexOf_0f7a4_6 ⟨rfl, rfl⟩
