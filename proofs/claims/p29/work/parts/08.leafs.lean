set_option maxRecDepth 20000 in
theorem kl_X9_327 : Cond.constantLong RX9 327 255 ∈ WALL := wm 434 (by decide +kernel) rfl
set_option maxRecDepth 20000 in
theorem cw_X9_329 : CwS RX9 329 yX9_byteOf cX9_byteOf 3 (some .int) 2 := ⟨wm 431 (by decide +kernel) rfl, wm 432 (by decide +kernel) rfl, wm 1 (by decide +kernel) rfl, wm 433 rfl rfl, by decide +kernel⟩
theorem dX9_isLetter_0 : decode cX9_isLetter 0 = .ok (.iload_n 0, 1) := by decide +kernel
theorem dX9_isLetter_1 : decode cX9_isLetter 1 = .ok (.bipush 97, 2) := by decide +kernel
theorem dX9_isLetter_3 : decode cX9_isLetter 3 = .ok (.if_icmp .lt 13, 3) := by decide +kernel
theorem dX9_isLetter_16 : decode cX9_isLetter 16 = .ok (.iconst 0, 1) := by decide +kernel
theorem dX9_isLetter_17 : decode cX9_isLetter 17 = .ok (.ireturn, 1) := by decide +kernel
theorem dX9_isLetter_6 : decode cX9_isLetter 6 = .ok (.iload_n 0, 1) := by decide +kernel
theorem dX9_isLetter_7 : decode cX9_isLetter 7 = .ok (.bipush 122, 2) := by decide +kernel
theorem dX9_isLetter_9 : decode cX9_isLetter 9 = .ok (.if_icmp .gt 7, 3) := by decide +kernel
theorem dX9_isLetter_12 : decode cX9_isLetter 12 = .ok (.iconst 1, 1) := by decide +kernel
theorem dX9_isLetter_13 : decode cX9_isLetter 13 = .ok (.goto 4, 3) := by decide +kernel
theorem dX10_isLetter_0 : decode cX10_isLetter 0 = .ok (.iload_n 0, 1) := by decide +kernel
theorem dX10_isLetter_1 : decode cX10_isLetter 1 = .ok (.bipush 97, 2) := by decide +kernel
theorem dX10_isLetter_3 : decode cX10_isLetter 3 = .ok (.if_icmp .lt 13, 3) := by decide +kernel
theorem dX10_isLetter_16 : decode cX10_isLetter 16 = .ok (.iconst 0, 1) := by decide +kernel
theorem dX10_isLetter_17 : decode cX10_isLetter 17 = .ok (.ireturn, 1) := by decide +kernel
theorem dX10_isLetter_6 : decode cX10_isLetter 6 = .ok (.iload_n 0, 1) := by decide +kernel
theorem dX10_isLetter_7 : decode cX10_isLetter 7 = .ok (.bipush 122, 2) := by decide +kernel
theorem dX10_isLetter_9 : decode cX10_isLetter 9 = .ok (.if_icmp .gt 7, 3) := by decide +kernel
theorem dX10_isLetter_12 : decode cX10_isLetter 12 = .ok (.iconst 1, 1) := by decide +kernel
theorem dX10_isLetter_13 : decode cX10_isLetter 13 = .ok (.goto 4, 3) := by decide +kernel
theorem dX9_byteOf_0 : decode cX9_byteOf 0 = .ok (.lload_n 0, 1) := by decide +kernel
theorem dX9_byteOf_1 : decode cX9_byteOf 1 = .ok (.bipush 8, 2) := by decide +kernel
theorem dX9_byteOf_3 : decode cX9_byteOf 3 = .ok (.iload_n 2, 1) := by decide +kernel
theorem dX9_byteOf_4 : decode cX9_byteOf 4 = .ok (.imul, 1) := by decide +kernel
theorem dX9_byteOf_5 : decode cX9_byteOf 5 = .ok (.lushr, 1) := by decide +kernel
theorem dX9_byteOf_6 : decode cX9_byteOf 6 = .ok (.ldc2_w 327, 3) := by decide +kernel
theorem dX9_byteOf_9 : decode cX9_byteOf 9 = .ok (.land, 1) := by decide +kernel
theorem dX9_byteOf_10 : decode cX9_byteOf 10 = .ok (.l2i, 1) := by decide +kernel
theorem dX9_byteOf_11 : decode cX9_byteOf 11 = .ok (.ireturn, 1) := by decide +kernel
theorem dX9_bytesIn_0 : decode cX9_bytesIn 0 = .ok (.iconst 0, 1) := by decide +kernel
theorem dX9_bytesIn_1 : decode cX9_bytesIn 1 = .ok (.istore_n 2, 1) := by decide +kernel
theorem dX9_bytesIn_2 : decode cX9_bytesIn 2 = .ok (.iload_n 2, 1) := by decide +kernel
theorem dX9_bytesIn_3 : decode cX9_bytesIn 3 = .ok (.bipush 8, 2) := by decide +kernel
theorem dX9_bytesIn_5 : decode cX9_bytesIn 5 = .ok (.if_icmp .ge 19, 3) := by decide +kernel
theorem dX9_bytesIn_8 : decode cX9_bytesIn 8 = .ok (.lload_n 0, 1) := by decide +kernel
theorem dX9_bytesIn_9 : decode cX9_bytesIn 9 = .ok (.iload_n 2, 1) := by decide +kernel
theorem dX9_bytesIn_10 : decode cX9_bytesIn 10 = .ok (.invokestatic 329, 3) := by decide +kernel
theorem dX9_bytesIn_13 : decode cX9_bytesIn 13 = .ok (.ifCond .ne 5, 3) := by decide +kernel
theorem dX9_bytesIn_18 : decode cX9_bytesIn 18 = .ok (.iinc 2 1, 3) := by decide +kernel
theorem dX9_bytesIn_21 : decode cX9_bytesIn 21 = .ok (.goto (-19), 3) := by decide +kernel
theorem dX9_bytesIn_24 : decode cX9_bytesIn 24 = .ok (.bipush 8, 2) := by decide +kernel
theorem dX9_bytesIn_26 : decode cX9_bytesIn 26 = .ok (.ireturn, 1) := by decide +kernel
theorem dX9_bytesIn_16 : decode cX9_bytesIn 16 = .ok (.iload_n 2, 1) := by decide +kernel
theorem dX9_bytesIn_17 : decode cX9_bytesIn 17 = .ok (.ireturn, 1) := by decide +kernel
set_option maxHeartbeats 4000000 in
set_option maxRecDepth 100000 in
theorem c_X9_isLetter (l : Launch) (D : va_G) (tA : Nat → ClassId) (b : Nat) (o n : Nat) (i F : Nat → Nat → Int32) (G : Nat → Nat → Int64) (x : Int32) : xMI l yX9_isLetter cX9_isLetter 1 (some .boolean) 0 0 D tA b o n i F G [.int x] (fun r u => u = (i, F, G) ∧ r = lt_ x) := by
  refine xstart RX9 rfl (by decide) (Nat.le_of_ble_eq_true rfl) ?_
  intro p e s m below meth c ls C0 hr hH hS hl
  have hl : lv_has ls 1 [(0, .int x)] := hl
  refine lv_iload_n (pc := 0) C0.1 C0.2.1 dX9_isLetter_0 rfl (lv_at hl 0 rfl) ?_
  refine lv_bipush (pc := 1) (v := 97) C0.1 C0.2.1 dX9_isLetter_1 (by decide) ?_
  refine lv_icmp_lt (pc := 3) (tgt := 16) C0.1 C0.2.1 dX9_isLetter_3 (by decide) (fun c1 => ?_) (fun c1 => ?_)
  · refine lv_iconst (pc := 16) (v := 0) C0.1 C0.2.1 dX9_isLetter_16 (by decide) ?_
    exact xzret (pc := 17) C0 hr hH hS dX9_isLetter_17 (by decide) ⟨rfl, by first | exact lt_f1 c1 | exact lt_f2 c2 | exact lt_t c1 c2⟩
  · refine lv_iload_n (pc := 6) C0.1 C0.2.1 dX9_isLetter_6 rfl (lv_at hl 0 rfl) ?_
    refine lv_bipush (pc := 7) (v := 122) C0.1 C0.2.1 dX9_isLetter_7 (by decide) ?_
    refine lv_icmp_gt (pc := 9) (tgt := 16) C0.1 C0.2.1 dX9_isLetter_9 (by decide) (fun c2 => ?_) (fun c2 => ?_)
    · refine lv_iconst (pc := 16) (v := 0) C0.1 C0.2.1 dX9_isLetter_16 (by decide) ?_
      exact xzret (pc := 17) C0 hr hH hS dX9_isLetter_17 (by decide) ⟨rfl, by first | exact lt_f1 c1 | exact lt_f2 c2 | exact lt_t c1 c2⟩
    · refine lv_iconst (pc := 12) (v := 1) C0.1 C0.2.1 dX9_isLetter_12 (by decide) ?_
      refine lv_goto (pc := 13) (tgt := 17) C0.1 C0.2.1 dX9_isLetter_13 (by decide) ?_
      exact xzret (pc := 17) C0 hr hH hS dX9_isLetter_17 (by decide) ⟨rfl, by first | exact lt_f1 c1 | exact lt_f2 c2 | exact lt_t c1 c2⟩
set_option maxHeartbeats 4000000 in
set_option maxRecDepth 100000 in
theorem c_X10_isLetter (l : Launch) (D : va_G) (tA : Nat → ClassId) (b : Nat) (o n : Nat) (i F : Nat → Nat → Int32) (G : Nat → Nat → Int64) (x : Int32) : xMI l yX10_isLetter cX10_isLetter 1 (some .boolean) 0 0 D tA b o n i F G [.int x] (fun r u => u = (i, F, G) ∧ r = lt_ x) := by
  refine xstart RX10 rfl (by decide) (Nat.le_of_ble_eq_true rfl) ?_
  intro p e s m below meth c ls C0 hr hH hS hl
  have hl : lv_has ls 1 [(0, .int x)] := hl
  refine lv_iload_n (pc := 0) C0.1 C0.2.1 dX10_isLetter_0 rfl (lv_at hl 0 rfl) ?_
  refine lv_bipush (pc := 1) (v := 97) C0.1 C0.2.1 dX10_isLetter_1 (by decide) ?_
  refine lv_icmp_lt (pc := 3) (tgt := 16) C0.1 C0.2.1 dX10_isLetter_3 (by decide) (fun c1 => ?_) (fun c1 => ?_)
  · refine lv_iconst (pc := 16) (v := 0) C0.1 C0.2.1 dX10_isLetter_16 (by decide) ?_
    exact xzret (pc := 17) C0 hr hH hS dX10_isLetter_17 (by decide) ⟨rfl, by first | exact lt_f1 c1 | exact lt_f2 c2 | exact lt_t c1 c2⟩
  · refine lv_iload_n (pc := 6) C0.1 C0.2.1 dX10_isLetter_6 rfl (lv_at hl 0 rfl) ?_
    refine lv_bipush (pc := 7) (v := 122) C0.1 C0.2.1 dX10_isLetter_7 (by decide) ?_
    refine lv_icmp_gt (pc := 9) (tgt := 16) C0.1 C0.2.1 dX10_isLetter_9 (by decide) (fun c2 => ?_) (fun c2 => ?_)
    · refine lv_iconst (pc := 16) (v := 0) C0.1 C0.2.1 dX10_isLetter_16 (by decide) ?_
      exact xzret (pc := 17) C0 hr hH hS dX10_isLetter_17 (by decide) ⟨rfl, by first | exact lt_f1 c1 | exact lt_f2 c2 | exact lt_t c1 c2⟩
    · refine lv_iconst (pc := 12) (v := 1) C0.1 C0.2.1 dX10_isLetter_12 (by decide) ?_
      refine lv_goto (pc := 13) (tgt := 17) C0.1 C0.2.1 dX10_isLetter_13 (by decide) ?_
      exact xzret (pc := 17) C0 hr hH hS dX10_isLetter_17 (by decide) ⟨rfl, by first | exact lt_f1 c1 | exact lt_f2 c2 | exact lt_t c1 c2⟩
set_option maxHeartbeats 4000000 in
set_option maxRecDepth 100000 in
theorem c_X9_byteOf (l : Launch) (D : va_G) (tA : Nat → ClassId) (b : Nat) (o n : Nat) (i F : Nat → Nat → Int32) (G : Nat → Nat → Int64) (w : Int64) (k : Nat) (hk : k < 8) : xMI l yX9_byteOf cX9_byteOf 3 (some .int) 0 0 D tA b o n i F G [.long w, .int (nI k)] (fun r u => u = (i, F, G) ∧ r = nI (bt w k)) := by
  refine xstart RX9 rfl (by decide) (Nat.le_of_ble_eq_true rfl) ?_
  intro p e s m below meth c ls C0 hr hH hS hl
  have hl : lv_has ls 3 [(0, .long w), (2, .int (nI k))] := hl
  refine lv_lload_n (pc := 0) C0.1 C0.2.1 dX9_byteOf_0 rfl (lv_at hl 0 rfl) ?_
  refine lv_bipush (pc := 1) (v := 8) C0.1 C0.2.1 dX9_byteOf_1 (by decide) ?_
  refine lv_iload_n (pc := 3) C0.1 C0.2.1 dX9_byteOf_3 rfl (lv_at hl 1 rfl) ?_
  refine lv_imul (pc := 4) C0.1 C0.2.1 dX9_byteOf_4 ?_
  obtain ⟨x1, ex1⟩ : ∃ y : Int64, y = (w.toUInt64 >>> ((8 * (nI k)).toInt64.toUInt64 &&& Int64.toUInt64 63)).toInt64 := ⟨_, rfl⟩
  refine lv_lushr (pc := 5) (v := x1) C0.1 C0.2.1 dX9_byteOf_5 (by rw [ex1]) ?_
  refine lv_ldc2 (pc := 6) C0.1 C0.2.1 C0.2.2.2.1 (C0.2.2.2.2.1 _ kl_X9_327) dX9_byteOf_6 ?_
  refine lv_land (pc := 9) C0.1 C0.2.1 dX9_byteOf_9 ?_
  refine lv_l2i (pc := 10) (v := (x1 &&& 255).toInt32) C0.1 C0.2.1 dX9_byteOf_10 rfl ?_
  exact xiret (pc := 11) C0 hr hH hS dX9_byteOf_11 ⟨rfl, by subst_vars; rw [bt_m w hk]; exact lN_i _⟩
set_option maxHeartbeats 4000000 in
set_option maxRecDepth 100000 in
theorem c_X9_bytesIn (l : Launch) (D : va_G) (tA : Nat → ClassId) (b : Nat) (o n : Nat) (i F : Nat → Nat → Int32) (G : Nat → Nat → Int64) (w : Int64) : xMI l yX9_bytesIn cX9_bytesIn 3 (some .int) 1 22 D tA b o n i F G [.long w] (fun r u => u = (i, F, G) ∧ r = nI (zl w)) := by
  refine xstart RX9 rfl (by decide) (Nat.le_of_ble_eq_true rfl) ?_
  intro p e s m below meth c ls C0 hr hH hS hl
  have hl : lv_has ls 3 [(0, .long w)] := hl
  refine lv_iconst (pc := 0) (v := 0) C0.1 C0.2.1 dX9_bytesIn_0 (by decide) ?_
  refine lv_istore_n (pc := 1) (lv' := [(2, .int 0), (0, .long w)]) C0.1 C0.2.1 dX9_bytesIn_1 rfl hl (by decide) rfl (fun ls hl => ?_)
  refine lv_iload_n (pc := 2) C0.1 C0.2.1 dX9_bytesIn_2 rfl (lv_at hl 0 rfl) ?_
  refine lv_bipush (pc := 3) (v := 8) C0.1 C0.2.1 dX9_bytesIn_3 (by decide) ?_
  refine lv_icmp_ge (pc := 5) (tgt := 24) C0.1 C0.2.1 dX9_bytesIn_5 (by decide) (fun c => absurd c (by decide)) (fun _ => ?_)
  refine lv_lload_n (pc := 8) C0.1 C0.2.1 dX9_bytesIn_8 rfl (lv_at hl 1 rfl) ?_
  refine lv_iload_n (pc := 9) C0.1 C0.2.1 dX9_bytesIn_9 rfl (lv_at hl 0 rfl) ?_
  refine xcSI (pc := 10) [.long w, .int 0] (c_X9_byteOf l D tA b o n i F G w 0 (by decide)) C0 hH hS cw_X9_329 rfl ⟨Nat.le_of_ble_eq_true rfl, Nat.le_of_ble_eq_true rfl⟩ hl.1 rfl (Nat.le_of_ble_eq_true rfl) dX9_bytesIn_10 ⟨Nat.le_of_ble_eq_true rfl, Nat.le_of_ble_eq_true rfl⟩ (fun r1 ir1 Fr1 Gr1 _ locs hp hH hS => ?_)
  obtain ⟨hu, rfl⟩ := hp
  cases hu
  refine lv_if_ne (pc := 13) (tgt := 18) C0.1 C0.2.1 dX9_bytesIn_13 (by decide) (fun c2 => ?_) (fun c2 => ?_)
  · have c2 := nz_ c2
    refine lv_iinc (pc := 18) (v := 1) (lv' := [(2, .int 1), (0, .long w)]) C0.1 C0.2.1 dX9_bytesIn_18 hl (k := 0) rfl (by decide) (by decide) rfl (fun ls hl => ?_)
    refine lv_goto (pc := 21) (tgt := 2) C0.1 C0.2.1 dX9_bytesIn_21 (by decide) ?_
    refine lv_iload_n (pc := 2) C0.1 C0.2.1 dX9_bytesIn_2 rfl (lv_at hl 0 rfl) ?_
    refine lv_bipush (pc := 3) (v := 8) C0.1 C0.2.1 dX9_bytesIn_3 (by decide) ?_
    refine lv_icmp_ge (pc := 5) (tgt := 24) C0.1 C0.2.1 dX9_bytesIn_5 (by decide) (fun c => absurd c (by decide)) (fun _ => ?_)
    refine lv_lload_n (pc := 8) C0.1 C0.2.1 dX9_bytesIn_8 rfl (lv_at hl 1 rfl) ?_
    refine lv_iload_n (pc := 9) C0.1 C0.2.1 dX9_bytesIn_9 rfl (lv_at hl 0 rfl) ?_
    refine xcSI (pc := 10) [.long w, .int 1] (c_X9_byteOf l D tA b o n i F G w 1 (by decide)) C0 hH hS cw_X9_329 rfl ⟨Nat.le_of_ble_eq_true rfl, Nat.le_of_ble_eq_true rfl⟩ hl.1 rfl (Nat.le_of_ble_eq_true rfl) dX9_bytesIn_10 ⟨Nat.le_of_ble_eq_true rfl, Nat.le_of_ble_eq_true rfl⟩ (fun r3 ir3 Fr3 Gr3 _ locs hp hH hS => ?_)
    obtain ⟨hu, rfl⟩ := hp
    cases hu
    refine lv_if_ne (pc := 13) (tgt := 18) C0.1 C0.2.1 dX9_bytesIn_13 (by decide) (fun c4 => ?_) (fun c4 => ?_)
    · have c4 := nz_ c4
      refine lv_iinc (pc := 18) (v := 2) (lv' := [(2, .int 2), (0, .long w)]) C0.1 C0.2.1 dX9_bytesIn_18 hl (k := 0) rfl (by decide) (by decide) rfl (fun ls hl => ?_)
      refine lv_goto (pc := 21) (tgt := 2) C0.1 C0.2.1 dX9_bytesIn_21 (by decide) ?_
      refine lv_iload_n (pc := 2) C0.1 C0.2.1 dX9_bytesIn_2 rfl (lv_at hl 0 rfl) ?_
      refine lv_bipush (pc := 3) (v := 8) C0.1 C0.2.1 dX9_bytesIn_3 (by decide) ?_
      refine lv_icmp_ge (pc := 5) (tgt := 24) C0.1 C0.2.1 dX9_bytesIn_5 (by decide) (fun c => absurd c (by decide)) (fun _ => ?_)
      refine lv_lload_n (pc := 8) C0.1 C0.2.1 dX9_bytesIn_8 rfl (lv_at hl 1 rfl) ?_
      refine lv_iload_n (pc := 9) C0.1 C0.2.1 dX9_bytesIn_9 rfl (lv_at hl 0 rfl) ?_
      refine xcSI (pc := 10) [.long w, .int 2] (c_X9_byteOf l D tA b o n i F G w 2 (by decide)) C0 hH hS cw_X9_329 rfl ⟨Nat.le_of_ble_eq_true rfl, Nat.le_of_ble_eq_true rfl⟩ hl.1 rfl (Nat.le_of_ble_eq_true rfl) dX9_bytesIn_10 ⟨Nat.le_of_ble_eq_true rfl, Nat.le_of_ble_eq_true rfl⟩ (fun r5 ir5 Fr5 Gr5 _ locs hp hH hS => ?_)
      obtain ⟨hu, rfl⟩ := hp
      cases hu
      refine lv_if_ne (pc := 13) (tgt := 18) C0.1 C0.2.1 dX9_bytesIn_13 (by decide) (fun c6 => ?_) (fun c6 => ?_)
      · have c6 := nz_ c6
        refine lv_iinc (pc := 18) (v := 3) (lv' := [(2, .int 3), (0, .long w)]) C0.1 C0.2.1 dX9_bytesIn_18 hl (k := 0) rfl (by decide) (by decide) rfl (fun ls hl => ?_)
        refine lv_goto (pc := 21) (tgt := 2) C0.1 C0.2.1 dX9_bytesIn_21 (by decide) ?_
        refine lv_iload_n (pc := 2) C0.1 C0.2.1 dX9_bytesIn_2 rfl (lv_at hl 0 rfl) ?_
        refine lv_bipush (pc := 3) (v := 8) C0.1 C0.2.1 dX9_bytesIn_3 (by decide) ?_
        refine lv_icmp_ge (pc := 5) (tgt := 24) C0.1 C0.2.1 dX9_bytesIn_5 (by decide) (fun c => absurd c (by decide)) (fun _ => ?_)
        refine lv_lload_n (pc := 8) C0.1 C0.2.1 dX9_bytesIn_8 rfl (lv_at hl 1 rfl) ?_
        refine lv_iload_n (pc := 9) C0.1 C0.2.1 dX9_bytesIn_9 rfl (lv_at hl 0 rfl) ?_
        refine xcSI (pc := 10) [.long w, .int 3] (c_X9_byteOf l D tA b o n i F G w 3 (by decide)) C0 hH hS cw_X9_329 rfl ⟨Nat.le_of_ble_eq_true rfl, Nat.le_of_ble_eq_true rfl⟩ hl.1 rfl (Nat.le_of_ble_eq_true rfl) dX9_bytesIn_10 ⟨Nat.le_of_ble_eq_true rfl, Nat.le_of_ble_eq_true rfl⟩ (fun r7 ir7 Fr7 Gr7 _ locs hp hH hS => ?_)
        obtain ⟨hu, rfl⟩ := hp
        cases hu
        refine lv_if_ne (pc := 13) (tgt := 18) C0.1 C0.2.1 dX9_bytesIn_13 (by decide) (fun c8 => ?_) (fun c8 => ?_)
        · have c8 := nz_ c8
          refine lv_iinc (pc := 18) (v := 4) (lv' := [(2, .int 4), (0, .long w)]) C0.1 C0.2.1 dX9_bytesIn_18 hl (k := 0) rfl (by decide) (by decide) rfl (fun ls hl => ?_)
          refine lv_goto (pc := 21) (tgt := 2) C0.1 C0.2.1 dX9_bytesIn_21 (by decide) ?_
          refine lv_iload_n (pc := 2) C0.1 C0.2.1 dX9_bytesIn_2 rfl (lv_at hl 0 rfl) ?_
          refine lv_bipush (pc := 3) (v := 8) C0.1 C0.2.1 dX9_bytesIn_3 (by decide) ?_
          refine lv_icmp_ge (pc := 5) (tgt := 24) C0.1 C0.2.1 dX9_bytesIn_5 (by decide) (fun c => absurd c (by decide)) (fun _ => ?_)
          refine lv_lload_n (pc := 8) C0.1 C0.2.1 dX9_bytesIn_8 rfl (lv_at hl 1 rfl) ?_
          refine lv_iload_n (pc := 9) C0.1 C0.2.1 dX9_bytesIn_9 rfl (lv_at hl 0 rfl) ?_
          refine xcSI (pc := 10) [.long w, .int 4] (c_X9_byteOf l D tA b o n i F G w 4 (by decide)) C0 hH hS cw_X9_329 rfl ⟨Nat.le_of_ble_eq_true rfl, Nat.le_of_ble_eq_true rfl⟩ hl.1 rfl (Nat.le_of_ble_eq_true rfl) dX9_bytesIn_10 ⟨Nat.le_of_ble_eq_true rfl, Nat.le_of_ble_eq_true rfl⟩ (fun r9 ir9 Fr9 Gr9 _ locs hp hH hS => ?_)
          obtain ⟨hu, rfl⟩ := hp
          cases hu
          refine lv_if_ne (pc := 13) (tgt := 18) C0.1 C0.2.1 dX9_bytesIn_13 (by decide) (fun c10 => ?_) (fun c10 => ?_)
          · have c10 := nz_ c10
            refine lv_iinc (pc := 18) (v := 5) (lv' := [(2, .int 5), (0, .long w)]) C0.1 C0.2.1 dX9_bytesIn_18 hl (k := 0) rfl (by decide) (by decide) rfl (fun ls hl => ?_)
            refine lv_goto (pc := 21) (tgt := 2) C0.1 C0.2.1 dX9_bytesIn_21 (by decide) ?_
            refine lv_iload_n (pc := 2) C0.1 C0.2.1 dX9_bytesIn_2 rfl (lv_at hl 0 rfl) ?_
            refine lv_bipush (pc := 3) (v := 8) C0.1 C0.2.1 dX9_bytesIn_3 (by decide) ?_
            refine lv_icmp_ge (pc := 5) (tgt := 24) C0.1 C0.2.1 dX9_bytesIn_5 (by decide) (fun c => absurd c (by decide)) (fun _ => ?_)
            refine lv_lload_n (pc := 8) C0.1 C0.2.1 dX9_bytesIn_8 rfl (lv_at hl 1 rfl) ?_
            refine lv_iload_n (pc := 9) C0.1 C0.2.1 dX9_bytesIn_9 rfl (lv_at hl 0 rfl) ?_
            refine xcSI (pc := 10) [.long w, .int 5] (c_X9_byteOf l D tA b o n i F G w 5 (by decide)) C0 hH hS cw_X9_329 rfl ⟨Nat.le_of_ble_eq_true rfl, Nat.le_of_ble_eq_true rfl⟩ hl.1 rfl (Nat.le_of_ble_eq_true rfl) dX9_bytesIn_10 ⟨Nat.le_of_ble_eq_true rfl, Nat.le_of_ble_eq_true rfl⟩ (fun r11 ir11 Fr11 Gr11 _ locs hp hH hS => ?_)
            obtain ⟨hu, rfl⟩ := hp
            cases hu
            refine lv_if_ne (pc := 13) (tgt := 18) C0.1 C0.2.1 dX9_bytesIn_13 (by decide) (fun c12 => ?_) (fun c12 => ?_)
            · have c12 := nz_ c12
              refine lv_iinc (pc := 18) (v := 6) (lv' := [(2, .int 6), (0, .long w)]) C0.1 C0.2.1 dX9_bytesIn_18 hl (k := 0) rfl (by decide) (by decide) rfl (fun ls hl => ?_)
              refine lv_goto (pc := 21) (tgt := 2) C0.1 C0.2.1 dX9_bytesIn_21 (by decide) ?_
              refine lv_iload_n (pc := 2) C0.1 C0.2.1 dX9_bytesIn_2 rfl (lv_at hl 0 rfl) ?_
              refine lv_bipush (pc := 3) (v := 8) C0.1 C0.2.1 dX9_bytesIn_3 (by decide) ?_
              refine lv_icmp_ge (pc := 5) (tgt := 24) C0.1 C0.2.1 dX9_bytesIn_5 (by decide) (fun c => absurd c (by decide)) (fun _ => ?_)
              refine lv_lload_n (pc := 8) C0.1 C0.2.1 dX9_bytesIn_8 rfl (lv_at hl 1 rfl) ?_
              refine lv_iload_n (pc := 9) C0.1 C0.2.1 dX9_bytesIn_9 rfl (lv_at hl 0 rfl) ?_
              refine xcSI (pc := 10) [.long w, .int 6] (c_X9_byteOf l D tA b o n i F G w 6 (by decide)) C0 hH hS cw_X9_329 rfl ⟨Nat.le_of_ble_eq_true rfl, Nat.le_of_ble_eq_true rfl⟩ hl.1 rfl (Nat.le_of_ble_eq_true rfl) dX9_bytesIn_10 ⟨Nat.le_of_ble_eq_true rfl, Nat.le_of_ble_eq_true rfl⟩ (fun r13 ir13 Fr13 Gr13 _ locs hp hH hS => ?_)
              obtain ⟨hu, rfl⟩ := hp
              cases hu
              refine lv_if_ne (pc := 13) (tgt := 18) C0.1 C0.2.1 dX9_bytesIn_13 (by decide) (fun c14 => ?_) (fun c14 => ?_)
              · have c14 := nz_ c14
                refine lv_iinc (pc := 18) (v := 7) (lv' := [(2, .int 7), (0, .long w)]) C0.1 C0.2.1 dX9_bytesIn_18 hl (k := 0) rfl (by decide) (by decide) rfl (fun ls hl => ?_)
                refine lv_goto (pc := 21) (tgt := 2) C0.1 C0.2.1 dX9_bytesIn_21 (by decide) ?_
                refine lv_iload_n (pc := 2) C0.1 C0.2.1 dX9_bytesIn_2 rfl (lv_at hl 0 rfl) ?_
                refine lv_bipush (pc := 3) (v := 8) C0.1 C0.2.1 dX9_bytesIn_3 (by decide) ?_
                refine lv_icmp_ge (pc := 5) (tgt := 24) C0.1 C0.2.1 dX9_bytesIn_5 (by decide) (fun c => absurd c (by decide)) (fun _ => ?_)
                refine lv_lload_n (pc := 8) C0.1 C0.2.1 dX9_bytesIn_8 rfl (lv_at hl 1 rfl) ?_
                refine lv_iload_n (pc := 9) C0.1 C0.2.1 dX9_bytesIn_9 rfl (lv_at hl 0 rfl) ?_
                refine xcSI (pc := 10) [.long w, .int 7] (c_X9_byteOf l D tA b o n i F G w 7 (by decide)) C0 hH hS cw_X9_329 rfl ⟨Nat.le_of_ble_eq_true rfl, Nat.le_of_ble_eq_true rfl⟩ hl.1 rfl (Nat.le_of_ble_eq_true rfl) dX9_bytesIn_10 ⟨Nat.le_of_ble_eq_true rfl, Nat.le_of_ble_eq_true rfl⟩ (fun r15 ir15 Fr15 Gr15 _ locs hp hH hS => ?_)
                obtain ⟨hu, rfl⟩ := hp
                cases hu
                refine lv_if_ne (pc := 13) (tgt := 18) C0.1 C0.2.1 dX9_bytesIn_13 (by decide) (fun c16 => ?_) (fun c16 => ?_)
                · have c16 := nz_ c16
                  refine lv_iinc (pc := 18) (v := 8) (lv' := [(2, .int 8), (0, .long w)]) C0.1 C0.2.1 dX9_bytesIn_18 hl (k := 0) rfl (by decide) (by decide) rfl (fun ls hl => ?_)
                  refine lv_goto (pc := 21) (tgt := 2) C0.1 C0.2.1 dX9_bytesIn_21 (by decide) ?_
                  refine lv_iload_n (pc := 2) C0.1 C0.2.1 dX9_bytesIn_2 rfl (lv_at hl 0 rfl) ?_
                  refine lv_bipush (pc := 3) (v := 8) C0.1 C0.2.1 dX9_bytesIn_3 (by decide) ?_
                  refine lv_icmp_ge (pc := 5) (tgt := 24) C0.1 C0.2.1 dX9_bytesIn_5 (by decide) (fun _ => ?_) (fun c => absurd (by decide) c)
                  refine lv_bipush (pc := 24) (v := 8) C0.1 C0.2.1 dX9_bytesIn_24 (by decide) ?_
                  exact xiret (pc := 26) C0 hr hH hS dX9_bytesIn_26 ⟨rfl, by unfold zl; simp only [*, if_true, if_false]; rfl⟩
                · have c16 := zz_ (bt_lb _ _) c16
                  refine lv_iload_n (pc := 16) C0.1 C0.2.1 dX9_bytesIn_16 rfl (lv_at hl 0 rfl) ?_
                  exact xiret (pc := 17) C0 hr hH hS dX9_bytesIn_17 ⟨rfl, by unfold zl; simp only [*, if_true, if_false]; rfl⟩
              · have c14 := zz_ (bt_lb _ _) c14
                refine lv_iload_n (pc := 16) C0.1 C0.2.1 dX9_bytesIn_16 rfl (lv_at hl 0 rfl) ?_
                exact xiret (pc := 17) C0 hr hH hS dX9_bytesIn_17 ⟨rfl, by unfold zl; simp only [*, if_true, if_false]; rfl⟩
            · have c12 := zz_ (bt_lb _ _) c12
              refine lv_iload_n (pc := 16) C0.1 C0.2.1 dX9_bytesIn_16 rfl (lv_at hl 0 rfl) ?_
              exact xiret (pc := 17) C0 hr hH hS dX9_bytesIn_17 ⟨rfl, by unfold zl; simp only [*, if_true, if_false]; rfl⟩
          · have c10 := zz_ (bt_lb _ _) c10
            refine lv_iload_n (pc := 16) C0.1 C0.2.1 dX9_bytesIn_16 rfl (lv_at hl 0 rfl) ?_
            exact xiret (pc := 17) C0 hr hH hS dX9_bytesIn_17 ⟨rfl, by unfold zl; simp only [*, if_true, if_false]; rfl⟩
        · have c8 := zz_ (bt_lb _ _) c8
          refine lv_iload_n (pc := 16) C0.1 C0.2.1 dX9_bytesIn_16 rfl (lv_at hl 0 rfl) ?_
          exact xiret (pc := 17) C0 hr hH hS dX9_bytesIn_17 ⟨rfl, by unfold zl; simp only [*, if_true, if_false]; rfl⟩
      · have c6 := zz_ (bt_lb _ _) c6
        refine lv_iload_n (pc := 16) C0.1 C0.2.1 dX9_bytesIn_16 rfl (lv_at hl 0 rfl) ?_
        exact xiret (pc := 17) C0 hr hH hS dX9_bytesIn_17 ⟨rfl, by unfold zl; simp only [*, if_true, if_false]; rfl⟩
    · have c4 := zz_ (bt_lb _ _) c4
      refine lv_iload_n (pc := 16) C0.1 C0.2.1 dX9_bytesIn_16 rfl (lv_at hl 0 rfl) ?_
      exact xiret (pc := 17) C0 hr hH hS dX9_bytesIn_17 ⟨rfl, by unfold zl; simp only [*, if_true, if_false]; rfl⟩
  · have c2 := zz_ (bt_lb _ _) c2
    refine lv_iload_n (pc := 16) C0.1 C0.2.1 dX9_bytesIn_16 rfl (lv_at hl 0 rfl) ?_
    exact xiret (pc := 17) C0 hr hH hS dX9_bytesIn_17 ⟨rfl, by unfold zl; simp only [*, if_true, if_false]; rfl⟩
