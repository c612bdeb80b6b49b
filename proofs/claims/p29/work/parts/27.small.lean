set_option maxRecDepth 20000 in
theorem fl_X0_39 : Cond.fieldLink RX0 39 (TX0 9).1 (TX0 9).2.1 (TX0 9).2.2.1 ∈ WALL := wm 193 (by decide +kernel) rfl
set_option maxRecDepth 20000 in
theorem fl_X2_33 : Cond.fieldLink RX2 33 (TX2 5).1 (TX2 5).2.1 (TX2 5).2.2.1 ∈ WALL := wm 239 (by decide +kernel) rfl
theorem dX9_isDigit_0 : decode cX9_isDigit 0 = .ok (.iload_n 0, 1) := by decide +kernel
theorem dX9_isDigit_1 : decode cX9_isDigit 1 = .ok (.bipush 48, 2) := by decide +kernel
theorem dX9_isDigit_3 : decode cX9_isDigit 3 = .ok (.if_icmp .lt 13, 3) := by decide +kernel
theorem dX9_isDigit_16 : decode cX9_isDigit 16 = .ok (.iconst 0, 1) := by decide +kernel
theorem dX9_isDigit_17 : decode cX9_isDigit 17 = .ok (.ireturn, 1) := by decide +kernel
theorem dX9_isDigit_6 : decode cX9_isDigit 6 = .ok (.iload_n 0, 1) := by decide +kernel
theorem dX9_isDigit_7 : decode cX9_isDigit 7 = .ok (.bipush 57, 2) := by decide +kernel
theorem dX9_isDigit_9 : decode cX9_isDigit 9 = .ok (.if_icmp .gt 7, 3) := by decide +kernel
theorem dX9_isDigit_12 : decode cX9_isDigit 12 = .ok (.iconst 1, 1) := by decide +kernel
theorem dX9_isDigit_13 : decode cX9_isDigit 13 = .ok (.goto 4, 3) := by decide +kernel
theorem dX9_isFirst_0 : decode cX9_isFirst 0 = .ok (.iload_n 0, 1) := by decide +kernel
theorem dX9_isFirst_1 : decode cX9_isFirst 1 = .ok (.bipush 10, 2) := by decide +kernel
theorem dX9_isFirst_3 : decode cX9_isFirst 3 = .ok (.if_icmp .lt 13, 3) := by decide +kernel
theorem dX9_isFirst_16 : decode cX9_isFirst 16 = .ok (.iconst 0, 1) := by decide +kernel
theorem dX9_isFirst_17 : decode cX9_isFirst 17 = .ok (.ireturn, 1) := by decide +kernel
theorem dX9_isFirst_6 : decode cX9_isFirst 6 = .ok (.iload_n 0, 1) := by decide +kernel
theorem dX9_isFirst_7 : decode cX9_isFirst 7 = .ok (.bipush 14, 2) := by decide +kernel
theorem dX9_isFirst_9 : decode cX9_isFirst 9 = .ok (.if_icmp .ge 7, 3) := by decide +kernel
theorem dX9_isFirst_12 : decode cX9_isFirst 12 = .ok (.iconst 1, 1) := by decide +kernel
theorem dX9_isFirst_13 : decode cX9_isFirst 13 = .ok (.goto 4, 3) := by decide +kernel
theorem dX9_isSecond_0 : decode cX9_isSecond 0 = .ok (.iload_n 0, 1) := by decide +kernel
theorem dX9_isSecond_1 : decode cX9_isSecond 1 = .ok (.bipush 20, 2) := by decide +kernel
theorem dX9_isSecond_3 : decode cX9_isSecond 3 = .ok (.if_icmp .lt 13, 3) := by decide +kernel
theorem dX9_isSecond_16 : decode cX9_isSecond 16 = .ok (.iconst 0, 1) := by decide +kernel
theorem dX9_isSecond_17 : decode cX9_isSecond 17 = .ok (.ireturn, 1) := by decide +kernel
theorem dX9_isSecond_6 : decode cX9_isSecond 6 = .ok (.iload_n 0, 1) := by decide +kernel
theorem dX9_isSecond_7 : decode cX9_isSecond 7 = .ok (.bipush 24, 2) := by decide +kernel
theorem dX9_isSecond_9 : decode cX9_isSecond 9 = .ok (.if_icmp .ge 7, 3) := by decide +kernel
theorem dX9_isSecond_12 : decode cX9_isSecond 12 = .ok (.iconst 1, 1) := by decide +kernel
theorem dX9_isSecond_13 : decode cX9_isSecond 13 = .ok (.goto 4, 3) := by decide +kernel
theorem dX0_has_0 : decode cX0_has 0 = .ok (.iload_n 1, 1) := by decide +kernel
theorem dX0_has_1 : decode cX0_has 1 = .ok (.ifCond .lt 15, 3) := by decide +kernel
theorem dX0_has_16 : decode cX0_has 16 = .ok (.iconst 0, 1) := by decide +kernel
theorem dX0_has_17 : decode cX0_has 17 = .ok (.ireturn, 1) := by decide +kernel
theorem dX0_has_4 : decode cX0_has 4 = .ok (.iload_n 1, 1) := by decide +kernel
theorem dX0_has_5 : decode cX0_has 5 = .ok (.aload_n 0, 1) := by decide +kernel
theorem dX0_has_6 : decode cX0_has 6 = .ok (.getfield 39, 3) := by decide +kernel
theorem dX0_has_9 : decode cX0_has 9 = .ok (.if_icmp .ge 7, 3) := by decide +kernel
theorem dX0_has_12 : decode cX0_has 12 = .ok (.iconst 1, 1) := by decide +kernel
theorem dX0_has_13 : decode cX0_has 13 = .ok (.goto 4, 3) := by decide +kernel
theorem dX2_has_0 : decode cX2_has 0 = .ok (.iload_n 1, 1) := by decide +kernel
theorem dX2_has_1 : decode cX2_has 1 = .ok (.ifCond .lt 15, 3) := by decide +kernel
theorem dX2_has_16 : decode cX2_has 16 = .ok (.iconst 0, 1) := by decide +kernel
theorem dX2_has_17 : decode cX2_has 17 = .ok (.ireturn, 1) := by decide +kernel
theorem dX2_has_4 : decode cX2_has 4 = .ok (.iload_n 1, 1) := by decide +kernel
theorem dX2_has_5 : decode cX2_has 5 = .ok (.aload_n 0, 1) := by decide +kernel
theorem dX2_has_6 : decode cX2_has 6 = .ok (.getfield 33, 3) := by decide +kernel
theorem dX2_has_9 : decode cX2_has 9 = .ok (.if_icmp .ge 7, 3) := by decide +kernel
theorem dX2_has_12 : decode cX2_has 12 = .ok (.iconst 1, 1) := by decide +kernel
theorem dX2_has_13 : decode cX2_has 13 = .ok (.goto 4, 3) := by decide +kernel
set_option maxHeartbeats 4000000 in
set_option maxRecDepth 100000 in
theorem g_X9_isDigit (l : Launch) (D : va_G) (tA : Nat → ClassId) (b : Nat) (i F : Nat → Nat → Int32) (G : Nat → Nat → Int64) (x : Int32)  : xMI l yX9_isDigit cX9_isDigit 1 (some .boolean) 0 0 D tA b 0 78 i F G [.int x] (fun r u => u = (i, F, G) ∧ (r.toInt = 0 ∨ r.toInt = 1)) := by
  refine xstart RX9 rfl (by decide) (Nat.le_of_ble_eq_true rfl) ?_
  intro p e s m below meth c ls C0 hr hH hS hl
  have hl : lv_has ls 1 [(0, .int x)] := hl
  have rg_x := fb_rng x
  refine lv_iload_n (pc := 0) C0.1 C0.2.1 dX9_isDigit_0 rfl (lv_at hl 0 rfl) ?_
  refine lv_bipush (pc := 1) (v := 48) C0.1 C0.2.1 dX9_isDigit_1 (by decide) ?_
  refine lv_icmp_lt (pc := 3) (tgt := 16) C0.1 C0.2.1 dX9_isDigit_3 (by decide) (fun c1 => ?_) (fun c1 => ?_)
  · have : Int32.toInt 48 = 48 := rfl
    have c1 := Int32.lt_iff_toInt_lt.mp c1
    refine lv_iconst (pc := 16) (v := 0) C0.1 C0.2.1 dX9_isDigit_16 (by decide) ?_
    exact xzret (pc := 17) C0 hr hH hS dX9_isDigit_17 (by decide) ⟨rfl, by decide⟩
  · have : Int32.toInt 48 = 48 := rfl
    have c1 : ¬ _ := fun q => c1 (Int32.lt_iff_toInt_lt.mpr q)
    refine lv_iload_n (pc := 6) C0.1 C0.2.1 dX9_isDigit_6 rfl (lv_at hl 0 rfl) ?_
    refine lv_bipush (pc := 7) (v := 57) C0.1 C0.2.1 dX9_isDigit_7 (by decide) ?_
    refine lv_icmp_gt (pc := 9) (tgt := 16) C0.1 C0.2.1 dX9_isDigit_9 (by decide) (fun c2 => ?_) (fun c2 => ?_)
    · have : Int32.toInt 57 = 57 := rfl
      have c2 := Int32.lt_iff_toInt_lt.mp c2
      refine lv_iconst (pc := 16) (v := 0) C0.1 C0.2.1 dX9_isDigit_16 (by decide) ?_
      exact xzret (pc := 17) C0 hr hH hS dX9_isDigit_17 (by decide) ⟨rfl, by decide⟩
    · have : Int32.toInt 57 = 57 := rfl
      have c2 : ¬ _ := fun q => c2 (Int32.lt_iff_toInt_lt.mpr q)
      refine lv_iconst (pc := 12) (v := 1) C0.1 C0.2.1 dX9_isDigit_12 (by decide) ?_
      refine lv_goto (pc := 13) (tgt := 17) C0.1 C0.2.1 dX9_isDigit_13 (by decide) ?_
      exact xzret (pc := 17) C0 hr hH hS dX9_isDigit_17 (by decide) ⟨rfl, by decide⟩
set_option maxHeartbeats 4000000 in
set_option maxRecDepth 100000 in
theorem g_X9_isFirst (l : Launch) (D : va_G) (tA : Nat → ClassId) (b : Nat) (i F : Nat → Nat → Int32) (G : Nat → Nat → Int64) (x : Int32)  : xMI l yX9_isFirst cX9_isFirst 1 (some .boolean) 0 0 D tA b 0 78 i F G [.int x] (fun r u => u = (i, F, G) ∧ (r.toInt = 0 ∨ r.toInt = 1)) := by
  refine xstart RX9 rfl (by decide) (Nat.le_of_ble_eq_true rfl) ?_
  intro p e s m below meth c ls C0 hr hH hS hl
  have hl : lv_has ls 1 [(0, .int x)] := hl
  have rg_x := fb_rng x
  refine lv_iload_n (pc := 0) C0.1 C0.2.1 dX9_isFirst_0 rfl (lv_at hl 0 rfl) ?_
  refine lv_bipush (pc := 1) (v := 10) C0.1 C0.2.1 dX9_isFirst_1 (by decide) ?_
  refine lv_icmp_lt (pc := 3) (tgt := 16) C0.1 C0.2.1 dX9_isFirst_3 (by decide) (fun c1 => ?_) (fun c1 => ?_)
  · have : Int32.toInt 10 = 10 := rfl
    have c1 := Int32.lt_iff_toInt_lt.mp c1
    refine lv_iconst (pc := 16) (v := 0) C0.1 C0.2.1 dX9_isFirst_16 (by decide) ?_
    exact xzret (pc := 17) C0 hr hH hS dX9_isFirst_17 (by decide) ⟨rfl, by decide⟩
  · have : Int32.toInt 10 = 10 := rfl
    have c1 : ¬ _ := fun q => c1 (Int32.lt_iff_toInt_lt.mpr q)
    refine lv_iload_n (pc := 6) C0.1 C0.2.1 dX9_isFirst_6 rfl (lv_at hl 0 rfl) ?_
    refine lv_bipush (pc := 7) (v := 14) C0.1 C0.2.1 dX9_isFirst_7 (by decide) ?_
    refine lv_icmp_ge (pc := 9) (tgt := 16) C0.1 C0.2.1 dX9_isFirst_9 (by decide) (fun c2 => ?_) (fun c2 => ?_)
    · have : Int32.toInt 14 = 14 := rfl
      have c2 := Int32.le_iff_toInt_le.mp c2
      refine lv_iconst (pc := 16) (v := 0) C0.1 C0.2.1 dX9_isFirst_16 (by decide) ?_
      exact xzret (pc := 17) C0 hr hH hS dX9_isFirst_17 (by decide) ⟨rfl, by decide⟩
    · have : Int32.toInt 14 = 14 := rfl
      have c2 : ¬ _ := fun q => c2 (Int32.le_iff_toInt_le.mpr q)
      refine lv_iconst (pc := 12) (v := 1) C0.1 C0.2.1 dX9_isFirst_12 (by decide) ?_
      refine lv_goto (pc := 13) (tgt := 17) C0.1 C0.2.1 dX9_isFirst_13 (by decide) ?_
      exact xzret (pc := 17) C0 hr hH hS dX9_isFirst_17 (by decide) ⟨rfl, by decide⟩
set_option maxHeartbeats 4000000 in
set_option maxRecDepth 100000 in
theorem g_X9_isSecond (l : Launch) (D : va_G) (tA : Nat → ClassId) (b : Nat) (i F : Nat → Nat → Int32) (G : Nat → Nat → Int64) (x : Int32)  : xMI l yX9_isSecond cX9_isSecond 1 (some .boolean) 0 0 D tA b 0 78 i F G [.int x] (fun r u => u = (i, F, G) ∧ (r.toInt = 0 ∨ r.toInt = 1)) := by
  refine xstart RX9 rfl (by decide) (Nat.le_of_ble_eq_true rfl) ?_
  intro p e s m below meth c ls C0 hr hH hS hl
  have hl : lv_has ls 1 [(0, .int x)] := hl
  have rg_x := fb_rng x
  refine lv_iload_n (pc := 0) C0.1 C0.2.1 dX9_isSecond_0 rfl (lv_at hl 0 rfl) ?_
  refine lv_bipush (pc := 1) (v := 20) C0.1 C0.2.1 dX9_isSecond_1 (by decide) ?_
  refine lv_icmp_lt (pc := 3) (tgt := 16) C0.1 C0.2.1 dX9_isSecond_3 (by decide) (fun c1 => ?_) (fun c1 => ?_)
  · have : Int32.toInt 20 = 20 := rfl
    have c1 := Int32.lt_iff_toInt_lt.mp c1
    refine lv_iconst (pc := 16) (v := 0) C0.1 C0.2.1 dX9_isSecond_16 (by decide) ?_
    exact xzret (pc := 17) C0 hr hH hS dX9_isSecond_17 (by decide) ⟨rfl, by decide⟩
  · have : Int32.toInt 20 = 20 := rfl
    have c1 : ¬ _ := fun q => c1 (Int32.lt_iff_toInt_lt.mpr q)
    refine lv_iload_n (pc := 6) C0.1 C0.2.1 dX9_isSecond_6 rfl (lv_at hl 0 rfl) ?_
    refine lv_bipush (pc := 7) (v := 24) C0.1 C0.2.1 dX9_isSecond_7 (by decide) ?_
    refine lv_icmp_ge (pc := 9) (tgt := 16) C0.1 C0.2.1 dX9_isSecond_9 (by decide) (fun c2 => ?_) (fun c2 => ?_)
    · have : Int32.toInt 24 = 24 := rfl
      have c2 := Int32.le_iff_toInt_le.mp c2
      refine lv_iconst (pc := 16) (v := 0) C0.1 C0.2.1 dX9_isSecond_16 (by decide) ?_
      exact xzret (pc := 17) C0 hr hH hS dX9_isSecond_17 (by decide) ⟨rfl, by decide⟩
    · have : Int32.toInt 24 = 24 := rfl
      have c2 : ¬ _ := fun q => c2 (Int32.le_iff_toInt_le.mpr q)
      refine lv_iconst (pc := 12) (v := 1) C0.1 C0.2.1 dX9_isSecond_12 (by decide) ?_
      refine lv_goto (pc := 13) (tgt := 17) C0.1 C0.2.1 dX9_isSecond_13 (by decide) ?_
      exact xzret (pc := 17) C0 hr hH hS dX9_isSecond_17 (by decide) ⟨rfl, by decide⟩
set_option maxHeartbeats 4000000 in
set_option maxRecDepth 100000 in
theorem g_X0_has_18 (l : Launch) (D : va_G) (tA : Nat → ClassId) (b : Nat) (i F : Nat → Nat → Int32) (G : Nat → Nat → Int64) (x : Int32)  : xMI l yX0_has cX0_has 2 (some .boolean) 0 0 D tA b 0 78 i F G [.ref (b + 18), .int x] (fun r u => u = (i, F, G) ∧ ((r.toInt = 0 ∧ ¬ (0 ≤ x.toInt ∧ x.toInt < (i 18 9).toInt)) ∨ (r.toInt = 1 ∧ 0 ≤ x.toInt ∧ x.toInt < (i 18 9).toInt))) := by
  refine xstart RX0 rfl (by decide) (Nat.le_of_ble_eq_true rfl) ?_
  intro p e s m below meth c ls C0 hr hH hS hl
  have hl : lv_has ls 2 [(0, .ref (b + 18)), (1, .int x)] := hl
  have rg_x := fb_rng x
  refine lv_iload_n (pc := 0) C0.1 C0.2.1 dX0_has_0 rfl (lv_at hl 1 rfl) ?_
  refine lv_if_lt (pc := 1) (tgt := 16) C0.1 C0.2.1 dX0_has_1 (by decide) (fun c1 => ?_) (fun c1 => ?_)
  · have : Int32.toInt 0 = 0 := rfl
    have c1 := Int32.lt_iff_toInt_lt.mp c1
    refine lv_iconst (pc := 16) (v := 0) C0.1 C0.2.1 dX0_has_16 (by decide) ?_
    exact xzret (pc := 17) C0 hr hH hS dX0_has_17 (by decide) ⟨rfl, by first | exact Or.inl ⟨rfl, by omega⟩ | exact Or.inr ⟨rfl, by omega, by omega⟩⟩
  · have : Int32.toInt 0 = 0 := rfl
    have c1 : ¬ _ := fun q => c1 (Int32.lt_iff_toInt_lt.mpr q)
    refine lv_iload_n (pc := 4) C0.1 C0.2.1 dX0_has_4 rfl (lv_at hl 1 rfl) ?_
    refine lv_aload_n (pc := 5) C0.1 C0.2.1 dX0_has_5 rfl (lv_at hl 0 rfl) ?_
    refine xget (pc := 6) C0 hH 18 9 clX0 ⟨Nat.le_of_ble_eq_true rfl, Nat.le_of_ble_eq_true rfl⟩ ⟨rfl, rfl⟩ (Nat.le_of_ble_eq_true rfl) fl_X0_39 (v := .int (i 18 9)) rfl dX0_has_6 ?_
    refine lv_icmp_ge (pc := 9) (tgt := 16) C0.1 C0.2.1 dX0_has_9 (by decide) (fun c2 => ?_) (fun c2 => ?_)
    · have c2 := Int32.le_iff_toInt_le.mp c2
      refine lv_iconst (pc := 16) (v := 0) C0.1 C0.2.1 dX0_has_16 (by decide) ?_
      exact xzret (pc := 17) C0 hr hH hS dX0_has_17 (by decide) ⟨rfl, by first | exact Or.inl ⟨rfl, by omega⟩ | exact Or.inr ⟨rfl, by omega, by omega⟩⟩
    · have c2 : ¬ _ := fun q => c2 (Int32.le_iff_toInt_le.mpr q)
      refine lv_iconst (pc := 12) (v := 1) C0.1 C0.2.1 dX0_has_12 (by decide) ?_
      refine lv_goto (pc := 13) (tgt := 17) C0.1 C0.2.1 dX0_has_13 (by decide) ?_
      exact xzret (pc := 17) C0 hr hH hS dX0_has_17 (by decide) ⟨rfl, by first | exact Or.inl ⟨rfl, by omega⟩ | exact Or.inr ⟨rfl, by omega, by omega⟩⟩
set_option maxHeartbeats 4000000 in
set_option maxRecDepth 100000 in
theorem g_X0_has_49 (l : Launch) (D : va_G) (tA : Nat → ClassId) (b : Nat) (i F : Nat → Nat → Int32) (G : Nat → Nat → Int64) (x : Int32)  : xMI l yX0_has cX0_has 2 (some .boolean) 0 0 D tA b 0 78 i F G [.ref (b + 49), .int x] (fun r u => u = (i, F, G) ∧ ((r.toInt = 0 ∧ ¬ (0 ≤ x.toInt ∧ x.toInt < (i 49 9).toInt)) ∨ (r.toInt = 1 ∧ 0 ≤ x.toInt ∧ x.toInt < (i 49 9).toInt))) := by
  refine xstart RX0 rfl (by decide) (Nat.le_of_ble_eq_true rfl) ?_
  intro p e s m below meth c ls C0 hr hH hS hl
  have hl : lv_has ls 2 [(0, .ref (b + 49)), (1, .int x)] := hl
  have rg_x := fb_rng x
  refine lv_iload_n (pc := 0) C0.1 C0.2.1 dX0_has_0 rfl (lv_at hl 1 rfl) ?_
  refine lv_if_lt (pc := 1) (tgt := 16) C0.1 C0.2.1 dX0_has_1 (by decide) (fun c1 => ?_) (fun c1 => ?_)
  · have : Int32.toInt 0 = 0 := rfl
    have c1 := Int32.lt_iff_toInt_lt.mp c1
    refine lv_iconst (pc := 16) (v := 0) C0.1 C0.2.1 dX0_has_16 (by decide) ?_
    exact xzret (pc := 17) C0 hr hH hS dX0_has_17 (by decide) ⟨rfl, by first | exact Or.inl ⟨rfl, by omega⟩ | exact Or.inr ⟨rfl, by omega, by omega⟩⟩
  · have : Int32.toInt 0 = 0 := rfl
    have c1 : ¬ _ := fun q => c1 (Int32.lt_iff_toInt_lt.mpr q)
    refine lv_iload_n (pc := 4) C0.1 C0.2.1 dX0_has_4 rfl (lv_at hl 1 rfl) ?_
    refine lv_aload_n (pc := 5) C0.1 C0.2.1 dX0_has_5 rfl (lv_at hl 0 rfl) ?_
    refine xget (pc := 6) C0 hH 49 9 clX0 ⟨Nat.le_of_ble_eq_true rfl, Nat.le_of_ble_eq_true rfl⟩ ⟨rfl, rfl⟩ (Nat.le_of_ble_eq_true rfl) fl_X0_39 (v := .int (i 49 9)) rfl dX0_has_6 ?_
    refine lv_icmp_ge (pc := 9) (tgt := 16) C0.1 C0.2.1 dX0_has_9 (by decide) (fun c2 => ?_) (fun c2 => ?_)
    · have c2 := Int32.le_iff_toInt_le.mp c2
      refine lv_iconst (pc := 16) (v := 0) C0.1 C0.2.1 dX0_has_16 (by decide) ?_
      exact xzret (pc := 17) C0 hr hH hS dX0_has_17 (by decide) ⟨rfl, by first | exact Or.inl ⟨rfl, by omega⟩ | exact Or.inr ⟨rfl, by omega, by omega⟩⟩
    · have c2 : ¬ _ := fun q => c2 (Int32.le_iff_toInt_le.mpr q)
      refine lv_iconst (pc := 12) (v := 1) C0.1 C0.2.1 dX0_has_12 (by decide) ?_
      refine lv_goto (pc := 13) (tgt := 17) C0.1 C0.2.1 dX0_has_13 (by decide) ?_
      exact xzret (pc := 17) C0 hr hH hS dX0_has_17 (by decide) ⟨rfl, by first | exact Or.inl ⟨rfl, by omega⟩ | exact Or.inr ⟨rfl, by omega, by omega⟩⟩
set_option maxHeartbeats 4000000 in
set_option maxRecDepth 100000 in
theorem g_X2_has_28 (l : Launch) (D : va_G) (tA : Nat → ClassId) (b : Nat) (i F : Nat → Nat → Int32) (G : Nat → Nat → Int64) (x : Int32)  : xMI l yX2_has cX2_has 2 (some .boolean) 0 0 D tA b 0 78 i F G [.ref (b + 28), .int x] (fun r u => u = (i, F, G) ∧ ((r.toInt = 0 ∧ ¬ (0 ≤ x.toInt ∧ x.toInt < (i 28 5).toInt)) ∨ (r.toInt = 1 ∧ 0 ≤ x.toInt ∧ x.toInt < (i 28 5).toInt))) := by
  refine xstart RX2 rfl (by decide) (Nat.le_of_ble_eq_true rfl) ?_
  intro p e s m below meth c ls C0 hr hH hS hl
  have hl : lv_has ls 2 [(0, .ref (b + 28)), (1, .int x)] := hl
  have rg_x := fb_rng x
  refine lv_iload_n (pc := 0) C0.1 C0.2.1 dX2_has_0 rfl (lv_at hl 1 rfl) ?_
  refine lv_if_lt (pc := 1) (tgt := 16) C0.1 C0.2.1 dX2_has_1 (by decide) (fun c1 => ?_) (fun c1 => ?_)
  · have : Int32.toInt 0 = 0 := rfl
    have c1 := Int32.lt_iff_toInt_lt.mp c1
    refine lv_iconst (pc := 16) (v := 0) C0.1 C0.2.1 dX2_has_16 (by decide) ?_
    exact xzret (pc := 17) C0 hr hH hS dX2_has_17 (by decide) ⟨rfl, by first | exact Or.inl ⟨rfl, by omega⟩ | exact Or.inr ⟨rfl, by omega, by omega⟩⟩
  · have : Int32.toInt 0 = 0 := rfl
    have c1 : ¬ _ := fun q => c1 (Int32.lt_iff_toInt_lt.mpr q)
    refine lv_iload_n (pc := 4) C0.1 C0.2.1 dX2_has_4 rfl (lv_at hl 1 rfl) ?_
    refine lv_aload_n (pc := 5) C0.1 C0.2.1 dX2_has_5 rfl (lv_at hl 0 rfl) ?_
    refine xget (pc := 6) C0 hH 28 5 clX2 ⟨Nat.le_of_ble_eq_true rfl, Nat.le_of_ble_eq_true rfl⟩ ⟨rfl, rfl⟩ (Nat.le_of_ble_eq_true rfl) fl_X2_33 (v := .int (i 28 5)) rfl dX2_has_6 ?_
    refine lv_icmp_ge (pc := 9) (tgt := 16) C0.1 C0.2.1 dX2_has_9 (by decide) (fun c2 => ?_) (fun c2 => ?_)
    · have c2 := Int32.le_iff_toInt_le.mp c2
      refine lv_iconst (pc := 16) (v := 0) C0.1 C0.2.1 dX2_has_16 (by decide) ?_
      exact xzret (pc := 17) C0 hr hH hS dX2_has_17 (by decide) ⟨rfl, by first | exact Or.inl ⟨rfl, by omega⟩ | exact Or.inr ⟨rfl, by omega, by omega⟩⟩
    · have c2 : ¬ _ := fun q => c2 (Int32.le_iff_toInt_le.mpr q)
      refine lv_iconst (pc := 12) (v := 1) C0.1 C0.2.1 dX2_has_12 (by decide) ?_
      refine lv_goto (pc := 13) (tgt := 17) C0.1 C0.2.1 dX2_has_13 (by decide) ?_
      exact xzret (pc := 17) C0 hr hH hS dX2_has_17 (by decide) ⟨rfl, by first | exact Or.inl ⟨rfl, by omega⟩ | exact Or.inr ⟨rfl, by omega, by omega⟩⟩
set_option maxHeartbeats 4000000 in
set_option maxRecDepth 100000 in
theorem g_X2_has_59 (l : Launch) (D : va_G) (tA : Nat → ClassId) (b : Nat) (i F : Nat → Nat → Int32) (G : Nat → Nat → Int64) (x : Int32)  : xMI l yX2_has cX2_has 2 (some .boolean) 0 0 D tA b 0 78 i F G [.ref (b + 59), .int x] (fun r u => u = (i, F, G) ∧ ((r.toInt = 0 ∧ ¬ (0 ≤ x.toInt ∧ x.toInt < (i 59 5).toInt)) ∨ (r.toInt = 1 ∧ 0 ≤ x.toInt ∧ x.toInt < (i 59 5).toInt))) := by
  refine xstart RX2 rfl (by decide) (Nat.le_of_ble_eq_true rfl) ?_
  intro p e s m below meth c ls C0 hr hH hS hl
  have hl : lv_has ls 2 [(0, .ref (b + 59)), (1, .int x)] := hl
  have rg_x := fb_rng x
  refine lv_iload_n (pc := 0) C0.1 C0.2.1 dX2_has_0 rfl (lv_at hl 1 rfl) ?_
  refine lv_if_lt (pc := 1) (tgt := 16) C0.1 C0.2.1 dX2_has_1 (by decide) (fun c1 => ?_) (fun c1 => ?_)
  · have : Int32.toInt 0 = 0 := rfl
    have c1 := Int32.lt_iff_toInt_lt.mp c1
    refine lv_iconst (pc := 16) (v := 0) C0.1 C0.2.1 dX2_has_16 (by decide) ?_
    exact xzret (pc := 17) C0 hr hH hS dX2_has_17 (by decide) ⟨rfl, by first | exact Or.inl ⟨rfl, by omega⟩ | exact Or.inr ⟨rfl, by omega, by omega⟩⟩
  · have : Int32.toInt 0 = 0 := rfl
    have c1 : ¬ _ := fun q => c1 (Int32.lt_iff_toInt_lt.mpr q)
    refine lv_iload_n (pc := 4) C0.1 C0.2.1 dX2_has_4 rfl (lv_at hl 1 rfl) ?_
    refine lv_aload_n (pc := 5) C0.1 C0.2.1 dX2_has_5 rfl (lv_at hl 0 rfl) ?_
    refine xget (pc := 6) C0 hH 59 5 clX2 ⟨Nat.le_of_ble_eq_true rfl, Nat.le_of_ble_eq_true rfl⟩ ⟨rfl, rfl⟩ (Nat.le_of_ble_eq_true rfl) fl_X2_33 (v := .int (i 59 5)) rfl dX2_has_6 ?_
    refine lv_icmp_ge (pc := 9) (tgt := 16) C0.1 C0.2.1 dX2_has_9 (by decide) (fun c2 => ?_) (fun c2 => ?_)
    · have c2 := Int32.le_iff_toInt_le.mp c2
      refine lv_iconst (pc := 16) (v := 0) C0.1 C0.2.1 dX2_has_16 (by decide) ?_
      exact xzret (pc := 17) C0 hr hH hS dX2_has_17 (by decide) ⟨rfl, by first | exact Or.inl ⟨rfl, by omega⟩ | exact Or.inr ⟨rfl, by omega, by omega⟩⟩
    · have c2 : ¬ _ := fun q => c2 (Int32.le_iff_toInt_le.mpr q)
      refine lv_iconst (pc := 12) (v := 1) C0.1 C0.2.1 dX2_has_12 (by decide) ?_
      refine lv_goto (pc := 13) (tgt := 17) C0.1 C0.2.1 dX2_has_13 (by decide) ?_
      exact xzret (pc := 17) C0 hr hH hS dX2_has_17 (by decide) ⟨rfl, by first | exact Or.inl ⟨rfl, by omega⟩ | exact Or.inr ⟨rfl, by omega, by omega⟩⟩
