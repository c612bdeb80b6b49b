set_option maxRecDepth 20000 in
theorem cw_X9_332 : CwS RX9 332 yX9_bytesIn cX9_bytesIn 3 (some .int) 1 := ⟨wm 428 (by decide +kernel) rfl, wm 429 (by decide +kernel) rfl, wm 1 (by decide +kernel) rfl, wm 430 rfl rfl, by decide +kernel⟩
set_option maxRecDepth 20000 in
theorem cw_X9_335 : CwS RX9 335 yX9_isLetter cX9_isLetter 1 (some .boolean) 1 := ⟨wm 438 (by decide +kernel) rfl, wm 439 (by decide +kernel) rfl, wm 1 (by decide +kernel) rfl, wm 440 rfl rfl, by decide +kernel⟩
theorem dX9_nameOf_0 : decode cX9_nameOf 0 = .ok (.lload_n 0, 1) := by decide +kernel
theorem dX9_nameOf_1 : decode cX9_nameOf 1 = .ok (.invokestatic 332, 3) := by decide +kernel
theorem dX9_nameOf_4 : decode cX9_nameOf 4 = .ok (.istore_n 2, 1) := by decide +kernel
theorem dX9_nameOf_5 : decode cX9_nameOf 5 = .ok (.iload_n 2, 1) := by decide +kernel
theorem dX9_nameOf_6 : decode cX9_nameOf 6 = .ok (.bipush 8, 2) := by decide +kernel
theorem dX9_nameOf_8 : decode cX9_nameOf 8 = .ok (.if_icmp .ne 7, 3) := by decide +kernel
theorem dX9_nameOf_15 : decode cX9_nameOf 15 = .ok (.lload_n 0, 1) := by decide +kernel
theorem dX9_nameOf_16 : decode cX9_nameOf 16 = .ok (.lconst 1, 1) := by decide +kernel
theorem dX9_nameOf_17 : decode cX9_nameOf 17 = .ok (.bipush 8, 2) := by decide +kernel
theorem dX9_nameOf_19 : decode cX9_nameOf 19 = .ok (.iload_n 2, 1) := by decide +kernel
theorem dX9_nameOf_20 : decode cX9_nameOf 20 = .ok (.imul, 1) := by decide +kernel
theorem dX9_nameOf_21 : decode cX9_nameOf 21 = .ok (.lshl, 1) := by decide +kernel
theorem dX9_nameOf_22 : decode cX9_nameOf 22 = .ok (.lconst 1, 1) := by decide +kernel
theorem dX9_nameOf_23 : decode cX9_nameOf 23 = .ok (.lsub, 1) := by decide +kernel
theorem dX9_nameOf_24 : decode cX9_nameOf 24 = .ok (.land, 1) := by decide +kernel
theorem dX9_nameOf_25 : decode cX9_nameOf 25 = .ok (.lreturn, 1) := by decide +kernel
theorem dX9_nameOf_11 : decode cX9_nameOf 11 = .ok (.lload_n 0, 1) := by decide +kernel
theorem dX9_nameOf_12 : decode cX9_nameOf 12 = .ok (.goto 13, 3) := by decide +kernel
theorem dX9_isWord_0 : decode cX9_isWord 0 = .ok (.lload_n 0, 1) := by decide +kernel
theorem dX9_isWord_1 : decode cX9_isWord 1 = .ok (.invokestatic 332, 3) := by decide +kernel
theorem dX9_isWord_4 : decode cX9_isWord 4 = .ok (.istore_n 2, 1) := by decide +kernel
theorem dX9_isWord_5 : decode cX9_isWord 5 = .ok (.iconst 0, 1) := by decide +kernel
theorem dX9_isWord_6 : decode cX9_isWord 6 = .ok (.istore_n 3, 1) := by decide +kernel
theorem dX9_isWord_7 : decode cX9_isWord 7 = .ok (.iload_n 3, 1) := by decide +kernel
theorem dX9_isWord_8 : decode cX9_isWord 8 = .ok (.iload_n 2, 1) := by decide +kernel
theorem dX9_isWord_9 : decode cX9_isWord 9 = .ok (.if_icmp .ge 22, 3) := by decide +kernel
theorem dX9_isWord_31 : decode cX9_isWord 31 = .ok (.iload_n 2, 1) := by decide +kernel
theorem dX9_isWord_32 : decode cX9_isWord 32 = .ok (.ifCond .le 7, 3) := by decide +kernel
theorem dX9_isWord_39 : decode cX9_isWord 39 = .ok (.iconst 0, 1) := by decide +kernel
theorem dX9_isWord_40 : decode cX9_isWord 40 = .ok (.ireturn, 1) := by decide +kernel
theorem dX9_isWord_35 : decode cX9_isWord 35 = .ok (.iconst 1, 1) := by decide +kernel
theorem dX9_isWord_36 : decode cX9_isWord 36 = .ok (.goto 4, 3) := by decide +kernel
theorem dX9_isWord_12 : decode cX9_isWord 12 = .ok (.lload_n 0, 1) := by decide +kernel
theorem dX9_isWord_13 : decode cX9_isWord 13 = .ok (.iload_n 3, 1) := by decide +kernel
theorem dX9_isWord_14 : decode cX9_isWord 14 = .ok (.invokestatic 329, 3) := by decide +kernel
theorem dX9_isWord_17 : decode cX9_isWord 17 = .ok (.invokestatic 335, 3) := by decide +kernel
theorem dX9_isWord_20 : decode cX9_isWord 20 = .ok (.ifCond .ne 5, 3) := by decide +kernel
theorem dX9_isWord_25 : decode cX9_isWord 25 = .ok (.iinc 3 1, 3) := by decide +kernel
theorem dX9_isWord_28 : decode cX9_isWord 28 = .ok (.goto (-21), 3) := by decide +kernel
theorem dX9_isWord_23 : decode cX9_isWord 23 = .ok (.iconst 0, 1) := by decide +kernel
theorem dX9_isWord_24 : decode cX9_isWord 24 = .ok (.ireturn, 1) := by decide +kernel
theorem dX9_isStepped_0 : decode cX9_isStepped 0 = .ok (.iload_n 0, 1) := by decide +kernel
theorem dX9_isStepped_1 : decode cX9_isStepped 1 = .ok (.iconst 1, 1) := by decide +kernel
theorem dX9_isStepped_2 : decode cX9_isStepped 2 = .ok (.if_icmp .eq 18, 3) := by decide +kernel
theorem dX9_isStepped_20 : decode cX9_isStepped 20 = .ok (.iconst 1, 1) := by decide +kernel
theorem dX9_isStepped_21 : decode cX9_isStepped 21 = .ok (.goto 4, 3) := by decide +kernel
theorem dX9_isStepped_25 : decode cX9_isStepped 25 = .ok (.ireturn, 1) := by decide +kernel
theorem dX9_isStepped_5 : decode cX9_isStepped 5 = .ok (.iload_n 0, 1) := by decide +kernel
theorem dX9_isStepped_6 : decode cX9_isStepped 6 = .ok (.iconst 2, 1) := by decide +kernel
theorem dX9_isStepped_7 : decode cX9_isStepped 7 = .ok (.if_icmp .eq 13, 3) := by decide +kernel
theorem dX9_isStepped_10 : decode cX9_isStepped 10 = .ok (.iload_n 0, 1) := by decide +kernel
theorem dX9_isStepped_11 : decode cX9_isStepped 11 = .ok (.iconst 3, 1) := by decide +kernel
theorem dX9_isStepped_12 : decode cX9_isStepped 12 = .ok (.if_icmp .eq 8, 3) := by decide +kernel
theorem dX9_isStepped_15 : decode cX9_isStepped 15 = .ok (.iload_n 0, 1) := by decide +kernel
theorem dX9_isStepped_16 : decode cX9_isStepped 16 = .ok (.iconst 5, 1) := by decide +kernel
theorem dX9_isStepped_17 : decode cX9_isStepped 17 = .ok (.if_icmp .ne 7, 3) := by decide +kernel
theorem dX9_isStepped_24 : decode cX9_isStepped 24 = .ok (.iconst 0, 1) := by decide +kernel
set_option maxHeartbeats 4000000 in
set_option maxRecDepth 100000 in
theorem c_X9_nameOf (l : Launch) (D : va_G) (tA : Nat → ClassId) (b : Nat) (o n : Nat) (i F : Nat → Nat → Int32) (G : Nat → Nat → Int64) (w : Int64) : xML l yX9_nameOf cX9_nameOf 3 (some .long) 2 44 D tA b o n i F G [.long w] (fun r u => u = (i, F, G) ∧ r = nmw w) := by
  refine xstart RX9 rfl (by decide) (Nat.le_of_ble_eq_true rfl) ?_
  intro p e s m below meth c ls C0 hr hH hS hl
  have hl : lv_has ls 3 [(0, .long w)] := hl
  refine lv_lload_n (pc := 0) C0.1 C0.2.1 dX9_nameOf_0 rfl (lv_at hl 0 rfl) ?_
  refine xcSI (pc := 1) [.long w] (c_X9_bytesIn l D tA b o n i F G w) C0 hH hS cw_X9_332 rfl ⟨Nat.le_of_ble_eq_true rfl, Nat.le_of_ble_eq_true rfl⟩ hl.1 rfl (Nat.le_of_ble_eq_true rfl) dX9_nameOf_1 ⟨Nat.le_of_ble_eq_true rfl, Nat.le_of_ble_eq_true rfl⟩ (fun r1 ir1 Fr1 Gr1 _ locs hp hH hS => ?_)
  obtain ⟨hu, rfl⟩ := hp
  cases hu
  refine lv_istore_n (pc := 4) (lv' := [(2, .int (nI (zl w))), (0, .long w)]) C0.1 C0.2.1 dX9_nameOf_4 rfl hl (by decide) rfl (fun ls hl => ?_)
  refine lv_iload_n (pc := 5) C0.1 C0.2.1 dX9_nameOf_5 rfl (lv_at hl 0 rfl) ?_
  refine lv_bipush (pc := 6) (v := 8) C0.1 C0.2.1 dX9_nameOf_6 (by decide) ?_
  refine lv_icmp_ne (pc := 8) (tgt := 15) C0.1 C0.2.1 dX9_nameOf_8 (by decide) (fun c2 => ?_) (fun c2 => ?_)
  · refine lv_lload_n (pc := 15) C0.1 C0.2.1 dX9_nameOf_15 rfl (lv_at hl 1 rfl) ?_
    refine lv_lconst (pc := 16) (v := 1) C0.1 C0.2.1 dX9_nameOf_16 (by decide) ?_
    refine lv_bipush (pc := 17) (v := 8) C0.1 C0.2.1 dX9_nameOf_17 (by decide) ?_
    refine lv_iload_n (pc := 19) C0.1 C0.2.1 dX9_nameOf_19 rfl (lv_at hl 0 rfl) ?_
    refine lv_imul (pc := 20) C0.1 C0.2.1 dX9_nameOf_20 ?_
    obtain ⟨x3, ex3⟩ : ∃ y : Int64, y = (1 : Int64) <<< ((8 * (nI (zl w))).toInt64 &&& 63) := ⟨_, rfl⟩
    refine lv_lshl (pc := 21) (v := x3) C0.1 C0.2.1 dX9_nameOf_21 (by rw [ex3]) ?_
    refine lv_lconst (pc := 22) (v := 1) C0.1 C0.2.1 dX9_nameOf_22 (by decide) ?_
    refine lv_lsub (pc := 23) C0.1 C0.2.1 dX9_nameOf_23 ?_
    refine lv_land (pc := 24) C0.1 C0.2.1 dX9_nameOf_24 ?_
    exact xlret (pc := 25) C0 hr hH hS dX9_nameOf_25 ⟨rfl, by first | (subst_vars; exact nmk (by assumption)) | (subst_vars; exact nm8 (by assumption))⟩
  · refine lv_lload_n (pc := 11) C0.1 C0.2.1 dX9_nameOf_11 rfl (lv_at hl 1 rfl) ?_
    refine lv_goto (pc := 12) (tgt := 25) C0.1 C0.2.1 dX9_nameOf_12 (by decide) ?_
    exact xlret (pc := 25) C0 hr hH hS dX9_nameOf_25 ⟨rfl, by first | (subst_vars; exact nmk (by assumption)) | (subst_vars; exact nm8 (by assumption))⟩
set_option maxHeartbeats 4000000 in
set_option maxRecDepth 100000 in
theorem c_X9_isWord (l : Launch) (D : va_G) (tA : Nat → ClassId) (b : Nat) (o n : Nat) (i F : Nat → Nat → Int32) (G : Nat → Nat → Int64) (t : Int64) : xMI l yX9_isWord cX9_isWord 4 (some .boolean) 2 44 D tA b o n i F G [.long t] (fun r u => u = (i, F, G) ∧ r = wdI t) := by
  refine xstart RX9 rfl (by decide) (Nat.le_of_ble_eq_true rfl) ?_
  intro p e s m below meth c ls C0 hr hH hS hl
  have hl : lv_has ls 4 [(0, .long t)] := hl
  have LOOP : ∀ (d : Nat) (k : Nat) (H : Heap) (locs : List Loc) (ls : Array Slot), (k + d = 8) → (∀ j, j < k → 97 ≤ bt t j ∧ bt t j ≤ 122) → Hd D tA b o n zz i F G H → va_S (xA b o n) s.heap H locs → lv_has ls 4 [(3, .int (nI k)), (2, .int (nI (zl t))), (0, .long t)] → W p l e (xR 2 44) s m ([.long t] : List Value).toArray below meth c H locs 0 0 (MQ below (va_Qi (fun r u => u = (i, F, G) ∧ r = wdI t) (xB D tA b o n zz) (xA b o n)) ([.long t] : List Value).toArray s 0 0 (xA b o n)) (F0 m 7 ls []) := by
    intro d
    induction d with
    | zero =>
      intro k H locs ls h1 h2 hH hS hl
      refine lv_iload_n (pc := 7) C0.1 C0.2.1 dX9_isWord_7 rfl (lv_at hl 0 rfl) ?_
      refine lv_iload_n (pc := 8) C0.1 C0.2.1 dX9_isWord_8 rfl (lv_at hl 1 rfl) ?_
      refine lv_icmp_ge (pc := 9) (tgt := 31) C0.1 C0.2.1 dX9_isWord_9 (by decide) (fun c1 => ?_) (fun c1 => ?_)
      · have c1 := le_nI (zl_lb _) (by omega) c1
        refine lv_iload_n (pc := 31) C0.1 C0.2.1 dX9_isWord_31 rfl (lv_at hl 1 rfl) ?_
        refine lv_if_le (pc := 32) (tgt := 39) C0.1 C0.2.1 dX9_isWord_32 (by decide) (fun c1 => ?_) (fun c1 => ?_)
        · have c1 := le_nI (a := zl t) (b := 0) (zl_lb _) (by decide) c1
          refine lv_iconst (pc := 39) (v := 0) C0.1 C0.2.1 dX9_isWord_39 (by decide) ?_
          exact xzret (pc := 40) C0 hr hH hS dX9_isWord_40 (by decide) ⟨rfl, (wdI_0 (fun h => by have := h.1; omega)).symm⟩
        · have c1 := lt_nI (a := zl t) (b := 0) (zl_lb _) (by decide) c1
          refine lv_iconst (pc := 35) (v := 1) C0.1 C0.2.1 dX9_isWord_35 (by decide) ?_
          refine lv_goto (pc := 36) (tgt := 40) C0.1 C0.2.1 dX9_isWord_36 (by decide) ?_
          exact xzret (pc := 40) C0 hr hH hS dX9_isWord_40 (by decide) ⟨rfl, (wdI_1 (wd_yes (n := k) (by assumption) (by assumption) h2)).symm⟩
      · have c1 := lt_nI (zl_lb _) (by omega) c1
        have h8 := zl_le t
        exact absurd h1 (by omega)
    | succ d ih =>
      intro k H locs ls h1 h2 hH hS hl
      refine lv_iload_n (pc := 7) C0.1 C0.2.1 dX9_isWord_7 rfl (lv_at hl 0 rfl) ?_
      refine lv_iload_n (pc := 8) C0.1 C0.2.1 dX9_isWord_8 rfl (lv_at hl 1 rfl) ?_
      refine lv_icmp_ge (pc := 9) (tgt := 31) C0.1 C0.2.1 dX9_isWord_9 (by decide) (fun c1 => ?_) (fun c1 => ?_)
      · have c1 := le_nI (zl_lb _) (by omega) c1
        refine lv_iload_n (pc := 31) C0.1 C0.2.1 dX9_isWord_31 rfl (lv_at hl 1 rfl) ?_
        refine lv_if_le (pc := 32) (tgt := 39) C0.1 C0.2.1 dX9_isWord_32 (by decide) (fun c1 => ?_) (fun c1 => ?_)
        · have c1 := le_nI (a := zl t) (b := 0) (zl_lb _) (by decide) c1
          refine lv_iconst (pc := 39) (v := 0) C0.1 C0.2.1 dX9_isWord_39 (by decide) ?_
          exact xzret (pc := 40) C0 hr hH hS dX9_isWord_40 (by decide) ⟨rfl, (wdI_0 (fun h => by have := h.1; omega)).symm⟩
        · have c1 := lt_nI (a := zl t) (b := 0) (zl_lb _) (by decide) c1
          refine lv_iconst (pc := 35) (v := 1) C0.1 C0.2.1 dX9_isWord_35 (by decide) ?_
          refine lv_goto (pc := 36) (tgt := 40) C0.1 C0.2.1 dX9_isWord_36 (by decide) ?_
          exact xzret (pc := 40) C0 hr hH hS dX9_isWord_40 (by decide) ⟨rfl, (wdI_1 (wd_yes (n := k) (by assumption) (by assumption) h2)).symm⟩
      · have c1 := lt_nI (zl_lb _) (by omega) c1
        have h8 := zl_le t
        refine lv_lload_n (pc := 12) C0.1 C0.2.1 dX9_isWord_12 rfl (lv_at hl 2 rfl) ?_
        refine lv_iload_n (pc := 13) C0.1 C0.2.1 dX9_isWord_13 rfl (lv_at hl 0 rfl) ?_
        refine xcSI (pc := 14) [.long t, .int (nI k)] (c_X9_byteOf l D tA b o n i F G t k (by omega)) C0 hH hS cw_X9_329 rfl ⟨Nat.le_of_ble_eq_true rfl, Nat.le_of_ble_eq_true rfl⟩ hl.1 rfl (Nat.le_of_ble_eq_true rfl) dX9_isWord_14 ⟨Nat.le_of_ble_eq_true rfl, Nat.le_of_ble_eq_true rfl⟩ (fun r2 ir2 Fr2 Gr2 _ locs hp hH hS => ?_)
        obtain ⟨hu, rfl⟩ := hp
        cases hu
        refine xcSI (pc := 17) [.int (nI (bt t k))] (c_X9_isLetter l D tA b o n i F G (nI (bt t k))) C0 hH hS cw_X9_335 rfl ⟨Nat.le_of_ble_eq_true rfl, Nat.le_of_ble_eq_true rfl⟩ hl.1 rfl (Nat.le_of_ble_eq_true rfl) dX9_isWord_17 ⟨Nat.le_of_ble_eq_true rfl, Nat.le_of_ble_eq_true rfl⟩ (fun r3 ir3 Fr3 Gr3 _ locs hp hH hS => ?_)
        obtain ⟨hu, rfl⟩ := hp
        cases hu
        refine lv_if_ne (pc := 20) (tgt := 25) C0.1 C0.2.1 dX9_isWord_20 (by decide) (fun c4 => ?_) (fun c4 => ?_)
        · have c4 := lt_1 (bt_lt _ _) c4
          refine lv_iinc (pc := 25) (v := (nI (k + 1))) (lv' := [(3, .int (nI (k + 1))), (2, .int (nI (zl t))), (0, .long t)]) C0.1 C0.2.1 dX9_isWord_25 hl (k := 0) rfl (nI_1 k) (by decide) rfl (fun ls hl => ?_)
          refine lv_goto (pc := 28) (tgt := 7) C0.1 C0.2.1 dX9_isWord_28 (by decide) ?_
          exact ih (k + 1) _ _ _ (by omega) (lt_s h2 (by assumption)) hH hS hl
        · have c4 := lt_0_ (bt_lt _ _) c4
          refine lv_iconst (pc := 23) (v := 0) C0.1 C0.2.1 dX9_isWord_23 (by decide) ?_
          exact xzret (pc := 24) C0 hr hH hS dX9_isWord_24 (by decide) ⟨rfl, (wdI_0 (wd_no (k := k) (by assumption) (by assumption))).symm⟩
  refine lv_lload_n (pc := 0) C0.1 C0.2.1 dX9_isWord_0 rfl (lv_at hl 0 rfl) ?_
  refine xcSI (pc := 1) [.long t] (c_X9_bytesIn l D tA b o n i F G t) C0 hH hS cw_X9_332 rfl ⟨Nat.le_of_ble_eq_true rfl, Nat.le_of_ble_eq_true rfl⟩ hl.1 rfl (Nat.le_of_ble_eq_true rfl) dX9_isWord_1 ⟨Nat.le_of_ble_eq_true rfl, Nat.le_of_ble_eq_true rfl⟩ (fun r1 ir1 Fr1 Gr1 _ locs hp hH hS => ?_)
  obtain ⟨hu, rfl⟩ := hp
  cases hu
  refine lv_istore_n (pc := 4) (lv' := [(2, .int (nI (zl t))), (0, .long t)]) C0.1 C0.2.1 dX9_isWord_4 rfl hl (by decide) rfl (fun ls hl => ?_)
  refine lv_iconst (pc := 5) (v := 0) C0.1 C0.2.1 dX9_isWord_5 (by decide) ?_
  refine lv_istore_n (pc := 6) (lv' := [(3, .int 0), (2, .int (nI (zl t))), (0, .long t)]) C0.1 C0.2.1 dX9_isWord_6 rfl hl (by decide) rfl (fun ls hl => ?_)
  exact LOOP 8 0 _ _ _ (by omega) (fun j hj => absurd hj (Nat.not_lt_zero _)) hH hS hl
set_option maxHeartbeats 4000000 in
set_option maxRecDepth 100000 in
theorem c_X9_isStepped (l : Launch) (D : va_G) (tA : Nat → ClassId) (b : Nat) (o n : Nat) (i F : Nat → Nat → Int32) (G : Nat → Nat → Int64) (x : Int32) : xMI l yX9_isStepped cX9_isStepped 1 (some .boolean) 0 0 D tA b o n i F G [.int x] (fun r u => u = (i, F, G) ∧ r = stp x) := by
  refine xstart RX9 rfl (by decide) (Nat.le_of_ble_eq_true rfl) ?_
  intro p e s m below meth c ls C0 hr hH hS hl
  have hl : lv_has ls 1 [(0, .int x)] := hl
  refine lv_iload_n (pc := 0) C0.1 C0.2.1 dX9_isStepped_0 rfl (lv_at hl 0 rfl) ?_
  refine lv_iconst (pc := 1) (v := 1) C0.1 C0.2.1 dX9_isStepped_1 (by decide) ?_
  refine lv_icmp_eq (pc := 2) (tgt := 20) C0.1 C0.2.1 dX9_isStepped_2 (by decide) (fun c1 => ?_) (fun c1 => ?_)
  · refine lv_iconst (pc := 20) (v := 1) C0.1 C0.2.1 dX9_isStepped_20 (by decide) ?_
    refine lv_goto (pc := 21) (tgt := 25) C0.1 C0.2.1 dX9_isStepped_21 (by decide) ?_
    exact xzret (pc := 25) C0 hr hH hS dX9_isStepped_25 (by decide) ⟨rfl, by unfold stp; simp [*]⟩
  · refine lv_iload_n (pc := 5) C0.1 C0.2.1 dX9_isStepped_5 rfl (lv_at hl 0 rfl) ?_
    refine lv_iconst (pc := 6) (v := 2) C0.1 C0.2.1 dX9_isStepped_6 (by decide) ?_
    refine lv_icmp_eq (pc := 7) (tgt := 20) C0.1 C0.2.1 dX9_isStepped_7 (by decide) (fun c2 => ?_) (fun c2 => ?_)
    · refine lv_iconst (pc := 20) (v := 1) C0.1 C0.2.1 dX9_isStepped_20 (by decide) ?_
      refine lv_goto (pc := 21) (tgt := 25) C0.1 C0.2.1 dX9_isStepped_21 (by decide) ?_
      exact xzret (pc := 25) C0 hr hH hS dX9_isStepped_25 (by decide) ⟨rfl, by unfold stp; simp [*]⟩
    · refine lv_iload_n (pc := 10) C0.1 C0.2.1 dX9_isStepped_10 rfl (lv_at hl 0 rfl) ?_
      refine lv_iconst (pc := 11) (v := 3) C0.1 C0.2.1 dX9_isStepped_11 (by decide) ?_
      refine lv_icmp_eq (pc := 12) (tgt := 20) C0.1 C0.2.1 dX9_isStepped_12 (by decide) (fun c3 => ?_) (fun c3 => ?_)
      · refine lv_iconst (pc := 20) (v := 1) C0.1 C0.2.1 dX9_isStepped_20 (by decide) ?_
        refine lv_goto (pc := 21) (tgt := 25) C0.1 C0.2.1 dX9_isStepped_21 (by decide) ?_
        exact xzret (pc := 25) C0 hr hH hS dX9_isStepped_25 (by decide) ⟨rfl, by unfold stp; simp [*]⟩
      · refine lv_iload_n (pc := 15) C0.1 C0.2.1 dX9_isStepped_15 rfl (lv_at hl 0 rfl) ?_
        refine lv_iconst (pc := 16) (v := 5) C0.1 C0.2.1 dX9_isStepped_16 (by decide) ?_
        refine lv_icmp_ne (pc := 17) (tgt := 24) C0.1 C0.2.1 dX9_isStepped_17 (by decide) (fun c4 => ?_) (fun c4 => ?_)
        · refine lv_iconst (pc := 24) (v := 0) C0.1 C0.2.1 dX9_isStepped_24 (by decide) ?_
          exact xzret (pc := 25) C0 hr hH hS dX9_isStepped_25 (by decide) ⟨rfl, by unfold stp; simp [*]⟩
        · refine lv_iconst (pc := 20) (v := 1) C0.1 C0.2.1 dX9_isStepped_20 (by decide) ?_
          refine lv_goto (pc := 21) (tgt := 25) C0.1 C0.2.1 dX9_isStepped_21 (by decide) ?_
          exact xzret (pc := 25) C0 hr hH hS dX9_isStepped_25 (by decide) ⟨rfl, by unfold stp; simp [*]⟩
