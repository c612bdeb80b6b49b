set_option maxRecDepth 20000 in
theorem fl_X6_15 : Cond.fieldLink RX6 15 (TX6 1).1 (TX6 1).2.1 (TX6 1).2.2.1 ∈ WALL := wm 71 (by decide +kernel) rfl
set_option maxRecDepth 20000 in
theorem cw_X6_37 : CwV RX6 37 yX6_at cX6_at 2 (some .int) 1 := ⟨wm 613 (by decide +kernel) rfl, wm 614 (by decide +kernel) rfl, wm 615 (by decide +kernel) rfl, wm 3 (by decide +kernel) rfl, wm 616 rfl rfl, by decide +kernel⟩
theorem dX6_at_0 : decode cX6_at 0 = .ok (.iload_n 1, 1) := by decide +kernel
theorem dX6_at_1 : decode cX6_at 1 = .ok (.ifCond .lt 24, 3) := by decide +kernel
theorem dX6_at_25 : decode cX6_at 25 = .ok (.bipush (-9), 2) := by decide +kernel
theorem dX6_at_27 : decode cX6_at 27 = .ok (.ireturn, 1) := by decide +kernel
theorem dX6_at_4 : decode cX6_at 4 = .ok (.iload_n 1, 1) := by decide +kernel
theorem dX6_at_5 : decode cX6_at 5 = .ok (.aload_n 0, 1) := by decide +kernel
theorem dX6_at_6 : decode cX6_at 6 = .ok (.getfield 15, 3) := by decide +kernel
theorem dX6_at_9 : decode cX6_at 9 = .ok (.if_icmp .ge 16, 3) := by decide +kernel
theorem dX6_at_12 : decode cX6_at 12 = .ok (.aload_n 0, 1) := by decide +kernel
theorem dX6_at_13 : decode cX6_at 13 = .ok (.getfield 9, 3) := by decide +kernel
theorem dX6_at_16 : decode cX6_at 16 = .ok (.iload_n 1, 1) := by decide +kernel
theorem dX6_at_17 : decode cX6_at 17 = .ok (.baload, 1) := by decide +kernel
theorem dX6_at_18 : decode cX6_at 18 = .ok (.sipush 255, 3) := by decide +kernel
theorem dX6_at_21 : decode cX6_at 21 = .ok (.iand, 1) := by decide +kernel
theorem dX6_at_22 : decode cX6_at 22 = .ok (.goto 5, 3) := by decide +kernel
theorem dX6_lineAt_0 : decode cX6_lineAt 0 = .ok (.iconst 0, 1) := by decide +kernel
theorem dX6_lineAt_1 : decode cX6_lineAt 1 = .ok (.istore_n 2, 1) := by decide +kernel
theorem dX6_lineAt_2 : decode cX6_lineAt 2 = .ok (.iconst 0, 1) := by decide +kernel
theorem dX6_lineAt_3 : decode cX6_lineAt 3 = .ok (.istore_n 3, 1) := by decide +kernel
theorem dX6_lineAt_4 : decode cX6_lineAt 4 = .ok (.iload_n 3, 1) := by decide +kernel
theorem dX6_lineAt_5 : decode cX6_lineAt 5 = .ok (.iload_n 1, 1) := by decide +kernel
theorem dX6_lineAt_6 : decode cX6_lineAt 6 = .ok (.if_icmp .ge 22, 3) := by decide +kernel
theorem dX6_lineAt_28 : decode cX6_lineAt 28 = .ok (.iload_n 2, 1) := by decide +kernel
theorem dX6_lineAt_29 : decode cX6_lineAt 29 = .ok (.ireturn, 1) := by decide +kernel
theorem dX6_lineAt_9 : decode cX6_lineAt 9 = .ok (.aload_n 0, 1) := by decide +kernel
theorem dX6_lineAt_10 : decode cX6_lineAt 10 = .ok (.iload_n 3, 1) := by decide +kernel
theorem dX6_lineAt_11 : decode cX6_lineAt 11 = .ok (.invokevirtual 37, 3) := by decide +kernel
theorem dX6_lineAt_14 : decode cX6_lineAt 14 = .ok (.bipush 10, 2) := by decide +kernel
theorem dX6_lineAt_16 : decode cX6_lineAt 16 = .ok (.if_icmp .ne 6, 3) := by decide +kernel
theorem dX6_lineAt_22 : decode cX6_lineAt 22 = .ok (.iinc 3 1, 3) := by decide +kernel
theorem dX6_lineAt_25 : decode cX6_lineAt 25 = .ok (.goto (-21), 3) := by decide +kernel
theorem dX6_lineAt_19 : decode cX6_lineAt 19 = .ok (.iinc 2 1, 3) := by decide +kernel
set_option maxHeartbeats 4000000 in
set_option maxRecDepth 100000 in
theorem g_X6_at_4 (l : Launch) (D : va_G) (tA : Nat → ClassId) (b : Nat) (i F : Nat → Nat → Int32) (G : Nat → Nat → Int64) (x : Int32) (hsz : 0 ≤ (i 4 1).toInt ∧ (i 4 1).toInt ≤ 600) : xMI l yX6_at cX6_at 2 (some .int) 0 0 D tA b 0 78 i F G [.ref (b + 4), .int x] (fun r u => u = (i, F, G) ∧ (r.toInt = -9 ∨ (0 ≤ x.toInt ∧ x.toInt < (i 4 1).toInt))) := by
  refine xstart RX6 rfl (by decide) (Nat.le_of_ble_eq_true rfl) ?_
  intro p e s m below meth c ls C0 hr hH hS hl
  have hl : lv_has ls 2 [(0, .ref (b + 4)), (1, .int x)] := hl
  have rg_x := fb_rng x
  refine lv_iload_n (pc := 0) C0.1 C0.2.1 dX6_at_0 rfl (lv_at hl 1 rfl) ?_
  refine lv_if_lt (pc := 1) (tgt := 25) C0.1 C0.2.1 dX6_at_1 (by decide) (fun c1 => ?_) (fun c1 => ?_)
  · have : Int32.toInt 0 = 0 := rfl
    have c1 := Int32.lt_iff_toInt_lt.mp c1
    refine lv_bipush (pc := 25) (v := (-9)) C0.1 C0.2.1 dX6_at_25 (by decide) ?_
    exact xiret (pc := 27) C0 hr hH hS dX6_at_27 ⟨rfl, by first | exact Or.inl rfl | exact Or.inr ⟨by omega, by omega⟩⟩
  · have : Int32.toInt 0 = 0 := rfl
    have c1 : ¬ _ := fun q => c1 (Int32.lt_iff_toInt_lt.mpr q)
    refine lv_iload_n (pc := 4) C0.1 C0.2.1 dX6_at_4 rfl (lv_at hl 1 rfl) ?_
    refine lv_aload_n (pc := 5) C0.1 C0.2.1 dX6_at_5 rfl (lv_at hl 0 rfl) ?_
    refine xget (pc := 6) C0 hH 4 1 clX6 ⟨Nat.le_of_ble_eq_true rfl, Nat.le_of_ble_eq_true rfl⟩ ⟨rfl, rfl⟩ (Nat.le_of_ble_eq_true rfl) fl_X6_15 (v := .int (i 4 1)) rfl dX6_at_6 ?_
    refine lv_icmp_ge (pc := 9) (tgt := 25) C0.1 C0.2.1 dX6_at_9 (by decide) (fun c2 => ?_) (fun c2 => ?_)
    · have c2 := Int32.le_iff_toInt_le.mp c2
      refine lv_bipush (pc := 25) (v := (-9)) C0.1 C0.2.1 dX6_at_25 (by decide) ?_
      exact xiret (pc := 27) C0 hr hH hS dX6_at_27 ⟨rfl, by first | exact Or.inl rfl | exact Or.inr ⟨by omega, by omega⟩⟩
    · have c2 : ¬ _ := fun q => c2 (Int32.le_iff_toInt_le.mpr q)
      refine lv_aload_n (pc := 12) C0.1 C0.2.1 dX6_at_12 rfl (lv_at hl 0 rfl) ?_
      refine xget (pc := 13) C0 hH 4 0 clX6 ⟨Nat.le_of_ble_eq_true rfl, Nat.le_of_ble_eq_true rfl⟩ ⟨rfl, rfl⟩ (Nat.le_of_ble_eq_true rfl) fl_X6_9 (v := .ref (b + 5)) rfl dX6_at_13 ?_
      refine lv_iload_n (pc := 16) C0.1 C0.2.1 dX6_at_16 rfl (lv_at hl 1 rfl) ?_
      refine xbald (pc := 17) (N := 600) C0 hH 5 ⟨Nat.le_of_ble_eq_true rfl, Nat.le_of_ble_eq_true rfl⟩ ⟨rfl, rfl⟩ (vI (by omega) (by omega)) dX6_at_17 ?_
      refine lv_sipush (pc := 18) (v := 255) C0.1 C0.2.1 dX6_at_18 (by decide) ?_
      refine lv_iand (pc := 21) C0.1 C0.2.1 dX6_at_21 ?_
      refine lv_goto (pc := 22) (tgt := 27) C0.1 C0.2.1 dX6_at_22 (by decide) ?_
      exact xiret (pc := 27) C0 hr hH hS dX6_at_27 ⟨rfl, by first | exact Or.inl rfl | exact Or.inr ⟨by omega, by omega⟩⟩
set_option maxHeartbeats 4000000 in
set_option maxRecDepth 100000 in
theorem g_X6_lineAt_4 (l : Launch) (D : va_G) (tA : Nat → ClassId) (b : Nat) (i F : Nat → Nat → Int32) (G : Nat → Nat → Int64) (x : Int32) (hsz : 0 ≤ (i 4 1).toInt ∧ (i 4 1).toInt ≤ 600) : xMI l yX6_lineAt cX6_lineAt 4 (some .int) 1 21 D tA b 0 78 i F G [.ref (b + 4), .int x] (fun r u => u = (i, F, G) ∧ True) := by
  refine xstart RX6 rfl (by decide) (Nat.le_of_ble_eq_true rfl) ?_
  intro p e s m below meth c ls C0 hr hH hS hl
  have hl : lv_has ls 4 [(0, .ref (b + 4)), (1, .int x)] := hl
  have rg_x := fb_rng x
  have LOOP : ∀ (d : Nat) (k y : Int32) (H : Heap) (locs : List Loc) (ls : Array Slot), (0 ≤ k.toInt) → (x.toInt - k.toInt ≤ d) → Hd D tA b 0 78 zz i F G H → va_S (xA b 0 78) s.heap H locs → lv_has ls 4 [(3, .int k), (2, .int y), (1, .int x), (0, .ref (b + 4))] → W p l e (xR 1 21) s m ([.ref (b + 4), .int x] : List Value).toArray below meth c H locs 0 0 (MQ below (va_Qi (fun r u => u = (i, F, G) ∧ True) (xB D tA b 0 78 zz) (xA b 0 78)) ([.ref (b + 4), .int x] : List Value).toArray s 0 0 (xA b 0 78)) (F0 m 4 ls []) := by
    intro d
    induction d with
    | zero =>
      intro k y H locs ls h1 h2 hH hS hl
      have rg_k := fb_rng k
      have rg_y := fb_rng y
      refine lv_iload_n (pc := 4) C0.1 C0.2.1 dX6_lineAt_4 rfl (lv_at hl 0 rfl) ?_
      refine lv_iload_n (pc := 5) C0.1 C0.2.1 dX6_lineAt_5 rfl (lv_at hl 2 rfl) ?_
      refine lv_icmp_ge (pc := 6) (tgt := 28) C0.1 C0.2.1 dX6_lineAt_6 (by decide) (fun _ => ?_) (fun c => absurd (Int32.le_iff_toInt_le.mpr (by omega)) c)
      refine lv_iload_n (pc := 28) C0.1 C0.2.1 dX6_lineAt_28 rfl (lv_at hl 1 rfl) ?_
      exact xiret (pc := 29) C0 hr hH hS dX6_lineAt_29 ⟨rfl, trivial⟩
    | succ d ih =>
      intro k y H locs ls h1 h2 hH hS hl
      have rg_k := fb_rng k
      have rg_y := fb_rng y
      refine lv_iload_n (pc := 4) C0.1 C0.2.1 dX6_lineAt_4 rfl (lv_at hl 0 rfl) ?_
      refine lv_iload_n (pc := 5) C0.1 C0.2.1 dX6_lineAt_5 rfl (lv_at hl 2 rfl) ?_
      refine lv_icmp_ge (pc := 6) (tgt := 28) C0.1 C0.2.1 dX6_lineAt_6 (by decide) (fun c101 => ?_) (fun c101 => ?_)
      · have c101 := Int32.le_iff_toInt_le.mp c101
        refine lv_iload_n (pc := 28) C0.1 C0.2.1 dX6_lineAt_28 rfl (lv_at hl 1 rfl) ?_
        exact xiret (pc := 29) C0 hr hH hS dX6_lineAt_29 ⟨rfl, trivial⟩
      · have c101 : ¬ _ := fun q => c101 (Int32.le_iff_toInt_le.mpr q)
        refine lv_aload_n (pc := 9) C0.1 C0.2.1 dX6_lineAt_9 rfl (lv_at hl 3 rfl) ?_
        refine lv_iload_n (pc := 10) C0.1 C0.2.1 dX6_lineAt_10 rfl (lv_at hl 0 rfl) ?_
        refine xcVI (pc := 11) 4 [.int k] (g_X6_at_4 l D tA b i F G k hsz) C0 hH hS clX6 rfl ⟨⟨Nat.le_of_ble_eq_true rfl, Nat.le_of_ble_eq_true rfl⟩, rfl, rfl⟩ cw_X6_37 rfl ⟨Nat.le_of_ble_eq_true rfl, Nat.le_of_ble_eq_true rfl⟩ hl.1 rfl (Nat.le_of_ble_eq_true rfl) dX6_lineAt_11 ⟨Nat.le_of_ble_eq_true rfl, Nat.le_of_ble_eq_true rfl⟩ (fun r102 ir102 Fr102 Gr102 _ locs hp hH hS => ?_)
        obtain ⟨hu, hpr102⟩ := hp
        cases hu
        refine lv_bipush (pc := 14) (v := 10) C0.1 C0.2.1 dX6_lineAt_14 (by decide) ?_
        refine lv_icmp_ne (pc := 16) (tgt := 22) C0.1 C0.2.1 dX6_lineAt_16 (by decide) (fun c103 => ?_) (fun c103 => ?_)
        · have : Int32.toInt 10 = 10 := rfl
          have c103 : ¬ _ := fun q => c103 (Int32.toInt_inj.mp q)
          obtain ⟨x104, ex104⟩ : ∃ y_ : Int32, y_ = k + 1 := ⟨_, rfl⟩
          have : Int32.toInt 1 = 1 := rfl
          have hx104 : Int32.toInt x104 = Int32.toInt k + Int32.toInt 1 := by rw [ex104]; exact fb_addI (by omega) (by omega)
          refine lv_iinc (pc := 22) (v := x104) (lv' := [(3, .int x104), (2, .int y), (1, .int x), (0, .ref (b + 4))]) C0.1 C0.2.1 dX6_lineAt_22 hl (k := 0) rfl (by rw [ex104]; rfl) (by decide) rfl (fun ls hl => ?_)
          refine lv_goto (pc := 25) (tgt := 4) C0.1 C0.2.1 dX6_lineAt_25 (by decide) ?_
          exact ih x104 y _ _ _ (by omega) (by omega) hH hS (lv_sub hl [0, 1, 2, 3] rfl)
        · have : Int32.toInt 10 = 10 := rfl
          have c103 := congrArg Int32.toInt c103
          obtain ⟨x105, ex105⟩ : ∃ y_ : Int32, y_ = y + 1 := ⟨_, rfl⟩
          refine lv_iinc (pc := 19) (v := x105) (lv' := [(2, .int x105), (3, .int k), (1, .int x), (0, .ref (b + 4))]) C0.1 C0.2.1 dX6_lineAt_19 hl (k := 1) rfl (by rw [ex105]; rfl) (by decide) rfl (fun ls hl => ?_)
          obtain ⟨x106, ex106⟩ : ∃ y_ : Int32, y_ = k + 1 := ⟨_, rfl⟩
          have : Int32.toInt 1 = 1 := rfl
          have hx106 : Int32.toInt x106 = Int32.toInt k + Int32.toInt 1 := by rw [ex106]; exact fb_addI (by omega) (by omega)
          refine lv_iinc (pc := 22) (v := x106) (lv' := [(3, .int x106), (2, .int x105), (1, .int x), (0, .ref (b + 4))]) C0.1 C0.2.1 dX6_lineAt_22 hl (k := 1) rfl (by rw [ex106]; rfl) (by decide) rfl (fun ls hl => ?_)
          refine lv_goto (pc := 25) (tgt := 4) C0.1 C0.2.1 dX6_lineAt_25 (by decide) ?_
          exact ih x106 x105 _ _ _ (by omega) (by omega) hH hS (lv_sub hl [0, 1, 2, 3] rfl)
  refine lv_iconst (pc := 0) (v := 0) C0.1 C0.2.1 dX6_lineAt_0 (by decide) ?_
  refine lv_istore_n (pc := 1) (lv' := [(2, .int 0), (0, .ref (b + 4)), (1, .int x)]) C0.1 C0.2.1 dX6_lineAt_1 rfl hl (by decide) rfl (fun ls hl => ?_)
  refine lv_iconst (pc := 2) (v := 0) C0.1 C0.2.1 dX6_lineAt_2 (by decide) ?_
  refine lv_istore_n (pc := 3) (lv' := [(3, .int 0), (2, .int 0), (0, .ref (b + 4)), (1, .int x)]) C0.1 C0.2.1 dX6_lineAt_3 rfl hl (by decide) rfl (fun ls hl => ?_)
  exact LOOP (x.toInt).toNat 0 0 _ _ _ (by have : Int32.toInt 0 = 0 := rfl; omega) (by have : Int32.toInt 0 = 0 := rfl; omega) hH hS (lv_sub hl [0, 1, 3, 2] rfl)
set_option maxHeartbeats 4000000 in
set_option maxRecDepth 100000 in
theorem g_X6_at_6 (l : Launch) (D : va_G) (tA : Nat → ClassId) (b : Nat) (i F : Nat → Nat → Int32) (G : Nat → Nat → Int64) (x : Int32) (hsz : 0 ≤ (i 6 1).toInt ∧ (i 6 1).toInt ≤ 600) : xMI l yX6_at cX6_at 2 (some .int) 0 0 D tA b 0 78 i F G [.ref (b + 6), .int x] (fun r u => u = (i, F, G) ∧ (r.toInt = -9 ∨ (0 ≤ x.toInt ∧ x.toInt < (i 6 1).toInt))) := by
  refine xstart RX6 rfl (by decide) (Nat.le_of_ble_eq_true rfl) ?_
  intro p e s m below meth c ls C0 hr hH hS hl
  have hl : lv_has ls 2 [(0, .ref (b + 6)), (1, .int x)] := hl
  have rg_x := fb_rng x
  refine lv_iload_n (pc := 0) C0.1 C0.2.1 dX6_at_0 rfl (lv_at hl 1 rfl) ?_
  refine lv_if_lt (pc := 1) (tgt := 25) C0.1 C0.2.1 dX6_at_1 (by decide) (fun c1 => ?_) (fun c1 => ?_)
  · have : Int32.toInt 0 = 0 := rfl
    have c1 := Int32.lt_iff_toInt_lt.mp c1
    refine lv_bipush (pc := 25) (v := (-9)) C0.1 C0.2.1 dX6_at_25 (by decide) ?_
    exact xiret (pc := 27) C0 hr hH hS dX6_at_27 ⟨rfl, by first | exact Or.inl rfl | exact Or.inr ⟨by omega, by omega⟩⟩
  · have : Int32.toInt 0 = 0 := rfl
    have c1 : ¬ _ := fun q => c1 (Int32.lt_iff_toInt_lt.mpr q)
    refine lv_iload_n (pc := 4) C0.1 C0.2.1 dX6_at_4 rfl (lv_at hl 1 rfl) ?_
    refine lv_aload_n (pc := 5) C0.1 C0.2.1 dX6_at_5 rfl (lv_at hl 0 rfl) ?_
    refine xget (pc := 6) C0 hH 6 1 clX6 ⟨Nat.le_of_ble_eq_true rfl, Nat.le_of_ble_eq_true rfl⟩ ⟨rfl, rfl⟩ (Nat.le_of_ble_eq_true rfl) fl_X6_15 (v := .int (i 6 1)) rfl dX6_at_6 ?_
    refine lv_icmp_ge (pc := 9) (tgt := 25) C0.1 C0.2.1 dX6_at_9 (by decide) (fun c2 => ?_) (fun c2 => ?_)
    · have c2 := Int32.le_iff_toInt_le.mp c2
      refine lv_bipush (pc := 25) (v := (-9)) C0.1 C0.2.1 dX6_at_25 (by decide) ?_
      exact xiret (pc := 27) C0 hr hH hS dX6_at_27 ⟨rfl, by first | exact Or.inl rfl | exact Or.inr ⟨by omega, by omega⟩⟩
    · have c2 : ¬ _ := fun q => c2 (Int32.le_iff_toInt_le.mpr q)
      refine lv_aload_n (pc := 12) C0.1 C0.2.1 dX6_at_12 rfl (lv_at hl 0 rfl) ?_
      refine xget (pc := 13) C0 hH 6 0 clX6 ⟨Nat.le_of_ble_eq_true rfl, Nat.le_of_ble_eq_true rfl⟩ ⟨rfl, rfl⟩ (Nat.le_of_ble_eq_true rfl) fl_X6_9 (v := .ref (b + 7)) rfl dX6_at_13 ?_
      refine lv_iload_n (pc := 16) C0.1 C0.2.1 dX6_at_16 rfl (lv_at hl 1 rfl) ?_
      refine xbald (pc := 17) (N := 600) C0 hH 7 ⟨Nat.le_of_ble_eq_true rfl, Nat.le_of_ble_eq_true rfl⟩ ⟨rfl, rfl⟩ (vI (by omega) (by omega)) dX6_at_17 ?_
      refine lv_sipush (pc := 18) (v := 255) C0.1 C0.2.1 dX6_at_18 (by decide) ?_
      refine lv_iand (pc := 21) C0.1 C0.2.1 dX6_at_21 ?_
      refine lv_goto (pc := 22) (tgt := 27) C0.1 C0.2.1 dX6_at_22 (by decide) ?_
      exact xiret (pc := 27) C0 hr hH hS dX6_at_27 ⟨rfl, by first | exact Or.inl rfl | exact Or.inr ⟨by omega, by omega⟩⟩
set_option maxHeartbeats 4000000 in
set_option maxRecDepth 100000 in
theorem g_X6_lineAt_6 (l : Launch) (D : va_G) (tA : Nat → ClassId) (b : Nat) (i F : Nat → Nat → Int32) (G : Nat → Nat → Int64) (x : Int32) (hsz : 0 ≤ (i 6 1).toInt ∧ (i 6 1).toInt ≤ 600) : xMI l yX6_lineAt cX6_lineAt 4 (some .int) 1 21 D tA b 0 78 i F G [.ref (b + 6), .int x] (fun r u => u = (i, F, G) ∧ True) := by
  refine xstart RX6 rfl (by decide) (Nat.le_of_ble_eq_true rfl) ?_
  intro p e s m below meth c ls C0 hr hH hS hl
  have hl : lv_has ls 4 [(0, .ref (b + 6)), (1, .int x)] := hl
  have rg_x := fb_rng x
  have LOOP : ∀ (d : Nat) (k y : Int32) (H : Heap) (locs : List Loc) (ls : Array Slot), (0 ≤ k.toInt) → (x.toInt - k.toInt ≤ d) → Hd D tA b 0 78 zz i F G H → va_S (xA b 0 78) s.heap H locs → lv_has ls 4 [(3, .int k), (2, .int y), (1, .int x), (0, .ref (b + 6))] → W p l e (xR 1 21) s m ([.ref (b + 6), .int x] : List Value).toArray below meth c H locs 0 0 (MQ below (va_Qi (fun r u => u = (i, F, G) ∧ True) (xB D tA b 0 78 zz) (xA b 0 78)) ([.ref (b + 6), .int x] : List Value).toArray s 0 0 (xA b 0 78)) (F0 m 4 ls []) := by
    intro d
    induction d with
    | zero =>
      intro k y H locs ls h1 h2 hH hS hl
      have rg_k := fb_rng k
      have rg_y := fb_rng y
      refine lv_iload_n (pc := 4) C0.1 C0.2.1 dX6_lineAt_4 rfl (lv_at hl 0 rfl) ?_
      refine lv_iload_n (pc := 5) C0.1 C0.2.1 dX6_lineAt_5 rfl (lv_at hl 2 rfl) ?_
      refine lv_icmp_ge (pc := 6) (tgt := 28) C0.1 C0.2.1 dX6_lineAt_6 (by decide) (fun _ => ?_) (fun c => absurd (Int32.le_iff_toInt_le.mpr (by omega)) c)
      refine lv_iload_n (pc := 28) C0.1 C0.2.1 dX6_lineAt_28 rfl (lv_at hl 1 rfl) ?_
      exact xiret (pc := 29) C0 hr hH hS dX6_lineAt_29 ⟨rfl, trivial⟩
    | succ d ih =>
      intro k y H locs ls h1 h2 hH hS hl
      have rg_k := fb_rng k
      have rg_y := fb_rng y
      refine lv_iload_n (pc := 4) C0.1 C0.2.1 dX6_lineAt_4 rfl (lv_at hl 0 rfl) ?_
      refine lv_iload_n (pc := 5) C0.1 C0.2.1 dX6_lineAt_5 rfl (lv_at hl 2 rfl) ?_
      refine lv_icmp_ge (pc := 6) (tgt := 28) C0.1 C0.2.1 dX6_lineAt_6 (by decide) (fun c101 => ?_) (fun c101 => ?_)
      · have c101 := Int32.le_iff_toInt_le.mp c101
        refine lv_iload_n (pc := 28) C0.1 C0.2.1 dX6_lineAt_28 rfl (lv_at hl 1 rfl) ?_
        exact xiret (pc := 29) C0 hr hH hS dX6_lineAt_29 ⟨rfl, trivial⟩
      · have c101 : ¬ _ := fun q => c101 (Int32.le_iff_toInt_le.mpr q)
        refine lv_aload_n (pc := 9) C0.1 C0.2.1 dX6_lineAt_9 rfl (lv_at hl 3 rfl) ?_
        refine lv_iload_n (pc := 10) C0.1 C0.2.1 dX6_lineAt_10 rfl (lv_at hl 0 rfl) ?_
        refine xcVI (pc := 11) 6 [.int k] (g_X6_at_6 l D tA b i F G k hsz) C0 hH hS clX6 rfl ⟨⟨Nat.le_of_ble_eq_true rfl, Nat.le_of_ble_eq_true rfl⟩, rfl, rfl⟩ cw_X6_37 rfl ⟨Nat.le_of_ble_eq_true rfl, Nat.le_of_ble_eq_true rfl⟩ hl.1 rfl (Nat.le_of_ble_eq_true rfl) dX6_lineAt_11 ⟨Nat.le_of_ble_eq_true rfl, Nat.le_of_ble_eq_true rfl⟩ (fun r102 ir102 Fr102 Gr102 _ locs hp hH hS => ?_)
        obtain ⟨hu, hpr102⟩ := hp
        cases hu
        refine lv_bipush (pc := 14) (v := 10) C0.1 C0.2.1 dX6_lineAt_14 (by decide) ?_
        refine lv_icmp_ne (pc := 16) (tgt := 22) C0.1 C0.2.1 dX6_lineAt_16 (by decide) (fun c103 => ?_) (fun c103 => ?_)
        · have : Int32.toInt 10 = 10 := rfl
          have c103 : ¬ _ := fun q => c103 (Int32.toInt_inj.mp q)
          obtain ⟨x104, ex104⟩ : ∃ y_ : Int32, y_ = k + 1 := ⟨_, rfl⟩
          have : Int32.toInt 1 = 1 := rfl
          have hx104 : Int32.toInt x104 = Int32.toInt k + Int32.toInt 1 := by rw [ex104]; exact fb_addI (by omega) (by omega)
          refine lv_iinc (pc := 22) (v := x104) (lv' := [(3, .int x104), (2, .int y), (1, .int x), (0, .ref (b + 6))]) C0.1 C0.2.1 dX6_lineAt_22 hl (k := 0) rfl (by rw [ex104]; rfl) (by decide) rfl (fun ls hl => ?_)
          refine lv_goto (pc := 25) (tgt := 4) C0.1 C0.2.1 dX6_lineAt_25 (by decide) ?_
          exact ih x104 y _ _ _ (by omega) (by omega) hH hS (lv_sub hl [0, 1, 2, 3] rfl)
        · have : Int32.toInt 10 = 10 := rfl
          have c103 := congrArg Int32.toInt c103
          obtain ⟨x105, ex105⟩ : ∃ y_ : Int32, y_ = y + 1 := ⟨_, rfl⟩
          refine lv_iinc (pc := 19) (v := x105) (lv' := [(2, .int x105), (3, .int k), (1, .int x), (0, .ref (b + 6))]) C0.1 C0.2.1 dX6_lineAt_19 hl (k := 1) rfl (by rw [ex105]; rfl) (by decide) rfl (fun ls hl => ?_)
          obtain ⟨x106, ex106⟩ : ∃ y_ : Int32, y_ = k + 1 := ⟨_, rfl⟩
          have : Int32.toInt 1 = 1 := rfl
          have hx106 : Int32.toInt x106 = Int32.toInt k + Int32.toInt 1 := by rw [ex106]; exact fb_addI (by omega) (by omega)
          refine lv_iinc (pc := 22) (v := x106) (lv' := [(3, .int x106), (2, .int x105), (1, .int x), (0, .ref (b + 6))]) C0.1 C0.2.1 dX6_lineAt_22 hl (k := 1) rfl (by rw [ex106]; rfl) (by decide) rfl (fun ls hl => ?_)
          refine lv_goto (pc := 25) (tgt := 4) C0.1 C0.2.1 dX6_lineAt_25 (by decide) ?_
          exact ih x106 x105 _ _ _ (by omega) (by omega) hH hS (lv_sub hl [0, 1, 2, 3] rfl)
  refine lv_iconst (pc := 0) (v := 0) C0.1 C0.2.1 dX6_lineAt_0 (by decide) ?_
  refine lv_istore_n (pc := 1) (lv' := [(2, .int 0), (0, .ref (b + 6)), (1, .int x)]) C0.1 C0.2.1 dX6_lineAt_1 rfl hl (by decide) rfl (fun ls hl => ?_)
  refine lv_iconst (pc := 2) (v := 0) C0.1 C0.2.1 dX6_lineAt_2 (by decide) ?_
  refine lv_istore_n (pc := 3) (lv' := [(3, .int 0), (2, .int 0), (0, .ref (b + 6)), (1, .int x)]) C0.1 C0.2.1 dX6_lineAt_3 rfl hl (by decide) rfl (fun ls hl => ?_)
  exact LOOP (x.toInt).toNat 0 0 _ _ _ (by have : Int32.toInt 0 = 0 := rfl; omega) (by have : Int32.toInt 0 = 0 := rfl; omega) hH hS (lv_sub hl [0, 1, 3, 2] rfl)
