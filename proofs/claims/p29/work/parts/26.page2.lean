set_option maxRecDepth 20000 in
theorem cw_X3_27 : CwV RX3 27 yX6_at cX6_at 2 (some .int) 1 := ⟨wm 907 (by decide +kernel) rfl, wm 614 (by decide +kernel) rfl, wm 615 (by decide +kernel) rfl, wm 3 (by decide +kernel) rfl, wm 616 rfl rfl, by decide +kernel⟩
theorem dX3_putApart_0 : decode cX3_putApart 0 = .ok (.aload_n 0, 1) := by decide +kernel
theorem dX3_putApart_1 : decode cX3_putApart 1 = .ok (.getfield 15, 3) := by decide +kernel
theorem dX3_putApart_4 : decode cX3_putApart 4 = .ok (.ifCond .le 9, 3) := by decide +kernel
theorem dX3_putApart_13 : decode cX3_putApart 13 = .ok (.return_, 1) := by decide +kernel
theorem dX3_putApart_7 : decode cX3_putApart 7 = .ok (.aload_n 0, 1) := by decide +kernel
theorem dX3_putApart_8 : decode cX3_putApart 8 = .ok (.bipush 32, 2) := by decide +kernel
theorem dX3_putApart_10 : decode cX3_putApart 10 = .ok (.invokevirtual 23, 3) := by decide +kernel
theorem dX3_putToken_0 : decode cX3_putToken 0 = .ok (.iconst 0, 1) := by decide +kernel
theorem dX3_putToken_1 : decode cX3_putToken 1 = .ok (.istore 4, 2) := by decide +kernel
theorem dX3_putToken_3 : decode cX3_putToken 3 = .ok (.iload 4, 2) := by decide +kernel
theorem dX3_putToken_5 : decode cX3_putToken 5 = .ok (.iload_n 3, 1) := by decide +kernel
theorem dX3_putToken_6 : decode cX3_putToken 6 = .ok (.if_icmp .ge 21, 3) := by decide +kernel
theorem dX3_putToken_27 : decode cX3_putToken 27 = .ok (.return_, 1) := by decide +kernel
theorem dX3_putToken_9 : decode cX3_putToken 9 = .ok (.aload_n 0, 1) := by decide +kernel
theorem dX3_putToken_10 : decode cX3_putToken 10 = .ok (.aload_n 1, 1) := by decide +kernel
theorem dX3_putToken_11 : decode cX3_putToken 11 = .ok (.iload_n 2, 1) := by decide +kernel
theorem dX3_putToken_12 : decode cX3_putToken 12 = .ok (.iload 4, 2) := by decide +kernel
theorem dX3_putToken_14 : decode cX3_putToken 14 = .ok (.iadd, 1) := by decide +kernel
theorem dX3_putToken_15 : decode cX3_putToken 15 = .ok (.invokevirtual 27, 3) := by decide +kernel
theorem dX3_putToken_18 : decode cX3_putToken 18 = .ok (.invokevirtual 23, 3) := by decide +kernel
theorem dX3_putToken_21 : decode cX3_putToken 21 = .ok (.iinc 4 1, 3) := by decide +kernel
theorem dX3_putToken_24 : decode cX3_putToken 24 = .ok (.goto (-21), 3) := by decide +kernel
set_option maxHeartbeats 4000000 in
set_option maxRecDepth 100000 in
theorem g_X3_putApart_73 (l : Launch) (D : va_G) (tA : Nat → ClassId) (b : Nat) (i F : Nat → Nat → Int32) (G : Nat → Nat → Int64)  (hpg : 0 ≤ (i 73 1).toInt ∧ (i 73 1).toInt ≤ 4000) : xMV l yX3_putApart cX3_putApart 1 none 1 21 D tA b 0 78 i F G [.ref (b + 73)] (fun u => On 73 75 i F G u ∧ 0 ≤ (u.1 73 1).toInt ∧ (u.1 73 1).toInt ≤ 4000) := by
  refine xstart RX3 rfl (by decide) (Nat.le_of_ble_eq_true rfl) ?_
  intro p e s m below meth c ls C0 hr hH hS hl
  have hl : lv_has ls 1 [(0, .ref (b + 73))] := hl
  refine lv_aload_n (pc := 0) C0.1 C0.2.1 dX3_putApart_0 rfl (lv_at hl 0 rfl) ?_
  refine xget (pc := 1) C0 hH 73 1 clX3 ⟨Nat.le_of_ble_eq_true rfl, Nat.le_of_ble_eq_true rfl⟩ ⟨rfl, rfl⟩ (Nat.le_of_ble_eq_true rfl) fl_X3_15 (v := .int (i 73 1)) rfl dX3_putApart_1 ?_
  refine lv_if_le (pc := 4) (tgt := 13) C0.1 C0.2.1 dX3_putApart_4 (by decide) (fun c1 => ?_) (fun c1 => ?_)
  · have : Int32.toInt 0 = 0 := rfl
    have c1 := Int32.le_iff_toInt_le.mp c1
    exact xvret (pc := 13) C0 hr hH hS dX3_putApart_13 ⟨On.rf, hpg.1, hpg.2⟩
  · have : Int32.toInt 0 = 0 := rfl
    have c1 : ¬ _ := fun q => c1 (Int32.le_iff_toInt_le.mpr q)
    refine lv_aload_n (pc := 7) C0.1 C0.2.1 dX3_putApart_7 rfl (lv_at hl 0 rfl) ?_
    refine lv_bipush (pc := 8) (v := 32) C0.1 C0.2.1 dX3_putApart_8 (by decide) ?_
    refine xcVV (pc := 10) 73 [.int 32] (g_X3_put_73 l D tA b i F G 32 (by omega)) C0 hH hS clX3 rfl ⟨⟨Nat.le_of_ble_eq_true rfl, Nat.le_of_ble_eq_true rfl⟩, rfl, rfl⟩ cw_X3_23 rfl ⟨Nat.le_of_ble_eq_true rfl, Nat.le_of_ble_eq_true rfl⟩ hl.1 rfl (Nat.le_of_ble_eq_true rfl) dX3_putApart_10 ⟨Nat.le_of_ble_eq_true rfl, Nat.le_of_ble_eq_true rfl⟩ (fun ir2 Fr2 Gr2 _ locs hp hH hS => ?_)
    obtain ⟨honr2, hs1r2, hs2r2⟩ := hp
    dsimp only at hs1r2 hs2r2
    exact xvret (pc := 13) C0 hr hH hS dX3_putApart_13 ⟨honr2, hs1r2, hs2r2⟩
set_option maxHeartbeats 4000000 in
set_option maxRecDepth 100000 in
theorem g_X3_putToken_73 (l : Launch) (D : va_G) (tA : Nat → ClassId) (b : Nat) (i F : Nat → Nat → Int32) (G : Nat → Nat → Int64) (x y : Int32) (hpg : 0 ≤ (i 73 1).toInt ∧ (i 73 1).toInt ≤ 4000) (hsz : 0 ≤ (i 4 1).toInt ∧ (i 4 1).toInt ≤ 600) : xMV l yX3_putToken cX3_putToken 5 none 1 21 D tA b 0 78 i F G [.ref (b + 73), .ref (b + 4), .int x, .int y] (fun u => On 73 75 i F G u ∧ 0 ≤ (u.1 73 1).toInt ∧ (u.1 73 1).toInt ≤ 4000) := by
  refine xstart RX3 rfl (by decide) (Nat.le_of_ble_eq_true rfl) ?_
  intro p e s m below meth c ls C0 hr hH hS hl
  have hl : lv_has ls 5 [(0, .ref (b + 73)), (1, .ref (b + 4)), (2, .int x), (3, .int y)] := hl
  have rg_x := fb_rng x
  have rg_y := fb_rng y
  have LOOP : ∀ (d : Nat) (j : Int32) (iv Fv : Nat → Nat → Int32) (Gv : Nat → Nat → Int64) (H : Heap) (locs : List Loc) (ls : Array Slot), (0 ≤ j.toInt) → (y.toInt - j.toInt ≤ d) → (On 73 75 i F G (iv, Fv, Gv)) → (0 ≤ (iv 73 1).toInt ∧ (iv 73 1).toInt ≤ 4000) → Hd D tA b 0 78 zz iv Fv Gv H → va_S (xA b 0 78) s.heap H locs → lv_has ls 5 [(4, .int j), (1, .ref (b + 4)), (2, .int x), (3, .int y), (0, .ref (b + 73))] → W p l e (xR 1 21) s m ([.ref (b + 73), .ref (b + 4), .int x, .int y] : List Value).toArray below meth c H locs 0 0 (MQ below (va_Qv (fun u => On 73 75 i F G u ∧ 0 ≤ (u.1 73 1).toInt ∧ (u.1 73 1).toInt ≤ 4000) (xB D tA b 0 78 zz) (xA b 0 78)) ([.ref (b + 73), .ref (b + 4), .int x, .int y] : List Value).toArray s 0 0 (xA b 0 78)) (F0 m 3 ls []) := by
    intro d
    induction d with
    | zero =>
      intro j iv Fv Gv H locs ls h1 h2 h3 h4 hH hS hl
      have rg_j := fb_rng j
      refine lv_iload (pc := 3) C0.1 C0.2.1 dX3_putToken_3 (lv_at hl 0 rfl) ?_
      refine lv_iload_n (pc := 5) C0.1 C0.2.1 dX3_putToken_5 rfl (lv_at hl 3 rfl) ?_
      refine lv_icmp_ge (pc := 6) (tgt := 27) C0.1 C0.2.1 dX3_putToken_6 (by decide) (fun _ => ?_) (fun c => absurd (Int32.le_iff_toInt_le.mpr (by omega)) c)
      exact xvret (pc := 27) C0 hr hH hS dX3_putToken_27 ⟨h3, h4.1, h4.2⟩
    | succ d ih =>
      intro j iv Fv Gv H locs ls h1 h2 h3 h4 hH hS hl
      have rg_j := fb_rng j
      refine lv_iload (pc := 3) C0.1 C0.2.1 dX3_putToken_3 (lv_at hl 0 rfl) ?_
      refine lv_iload_n (pc := 5) C0.1 C0.2.1 dX3_putToken_5 rfl (lv_at hl 3 rfl) ?_
      refine lv_icmp_ge (pc := 6) (tgt := 27) C0.1 C0.2.1 dX3_putToken_6 (by decide) (fun c101 => ?_) (fun c101 => ?_)
      · have c101 := Int32.le_iff_toInt_le.mp c101
        exact xvret (pc := 27) C0 hr hH hS dX3_putToken_27 ⟨h3, h4.1, h4.2⟩
      · have c101 : ¬ _ := fun q => c101 (Int32.le_iff_toInt_le.mpr q)
        refine lv_aload_n (pc := 9) C0.1 C0.2.1 dX3_putToken_9 rfl (lv_at hl 4 rfl) ?_
        refine lv_aload_n (pc := 10) C0.1 C0.2.1 dX3_putToken_10 rfl (lv_at hl 1 rfl) ?_
        refine lv_iload_n (pc := 11) C0.1 C0.2.1 dX3_putToken_11 rfl (lv_at hl 2 rfl) ?_
        refine lv_iload (pc := 12) C0.1 C0.2.1 dX3_putToken_12 (lv_at hl 0 rfl) ?_
        refine lv_iadd (pc := 14) C0.1 C0.2.1 dX3_putToken_14 ?_
        refine xcVI (pc := 15) 4 [.int (x + j)] (g_X6_at_4 l D tA b iv Fv Gv (x + j) (by have q := congrFun (h3.1 4 (by decide)).1 1; dsimp only at q; rw [q]; exact hsz)) C0 hH hS clX6 rfl ⟨⟨Nat.le_of_ble_eq_true rfl, Nat.le_of_ble_eq_true rfl⟩, rfl, rfl⟩ cw_X3_27 rfl ⟨Nat.le_of_ble_eq_true rfl, Nat.le_of_ble_eq_true rfl⟩ hl.1 rfl (Nat.le_of_ble_eq_true rfl) dX3_putToken_15 ⟨Nat.le_of_ble_eq_true rfl, Nat.le_of_ble_eq_true rfl⟩ (fun r102 ir102 Fr102 Gr102 _ locs hp hH hS => ?_)
        obtain ⟨hu, hpr102⟩ := hp
        cases hu
        refine xcVV (pc := 18) 73 [.int r102] (g_X3_put_73 l D tA b iv Fv Gv r102 (by omega)) C0 hH hS clX3 rfl ⟨⟨Nat.le_of_ble_eq_true rfl, Nat.le_of_ble_eq_true rfl⟩, rfl, rfl⟩ cw_X3_23 rfl ⟨Nat.le_of_ble_eq_true rfl, Nat.le_of_ble_eq_true rfl⟩ hl.1 rfl (Nat.le_of_ble_eq_true rfl) dX3_putToken_18 ⟨Nat.le_of_ble_eq_true rfl, Nat.le_of_ble_eq_true rfl⟩ (fun ir103 Fr103 Gr103 _ locs hp hH hS => ?_)
        obtain ⟨honr103, hs1r103, hs2r103⟩ := hp
        dsimp only at hs1r103 hs2r103
        obtain ⟨x104, ex104⟩ : ∃ y_ : Int32, y_ = j + 1 := ⟨_, rfl⟩
        have : Int32.toInt 1 = 1 := rfl
        have hx104 : Int32.toInt x104 = Int32.toInt j + Int32.toInt 1 := by rw [ex104]; exact fb_addI (by omega) (by omega)
        refine lv_iinc (pc := 21) (v := x104) (lv' := [(4, .int x104), (1, .ref (b + 4)), (2, .int x), (3, .int y), (0, .ref (b + 73))]) C0.1 C0.2.1 dX3_putToken_21 hl (k := 0) rfl (by rw [ex104]; rfl) (by decide) rfl (fun ls hl => ?_)
        refine lv_goto (pc := 24) (tgt := 3) C0.1 C0.2.1 dX3_putToken_24 (by decide) ?_
        exact ih x104 _ _ _ _ _ _ (by omega) (by omega) (On.tr h3 honr103 (Nat.le_refl _) (Nat.le_refl _)) ⟨by omega, by omega⟩ hH hS (lv_sub hl [0, 1, 2, 3, 4] rfl)
  refine lv_iconst (pc := 0) (v := 0) C0.1 C0.2.1 dX3_putToken_0 (by decide) ?_
  refine lv_istore (pc := 1) (lv' := [(4, .int 0), (0, .ref (b + 73)), (1, .ref (b + 4)), (2, .int x), (3, .int y)]) C0.1 C0.2.1 dX3_putToken_1 hl (by decide) rfl (fun ls hl => ?_)
  exact LOOP (y.toInt).toNat 0 i F G _ _ _ (by have : Int32.toInt 0 = 0 := rfl; omega) (by have : Int32.toInt 0 = 0 := rfl; omega) On.rf hpg hH hS (lv_sub hl [0, 2, 3, 4, 1] rfl)
set_option maxHeartbeats 4000000 in
set_option maxRecDepth 100000 in
theorem g_X3_putApart_75 (l : Launch) (D : va_G) (tA : Nat → ClassId) (b : Nat) (i F : Nat → Nat → Int32) (G : Nat → Nat → Int64)  (hpg : 0 ≤ (i 75 1).toInt ∧ (i 75 1).toInt ≤ 4000) : xMV l yX3_putApart cX3_putApart 1 none 1 21 D tA b 0 78 i F G [.ref (b + 75)] (fun u => On 75 77 i F G u ∧ 0 ≤ (u.1 75 1).toInt ∧ (u.1 75 1).toInt ≤ 4000) := by
  refine xstart RX3 rfl (by decide) (Nat.le_of_ble_eq_true rfl) ?_
  intro p e s m below meth c ls C0 hr hH hS hl
  have hl : lv_has ls 1 [(0, .ref (b + 75))] := hl
  refine lv_aload_n (pc := 0) C0.1 C0.2.1 dX3_putApart_0 rfl (lv_at hl 0 rfl) ?_
  refine xget (pc := 1) C0 hH 75 1 clX3 ⟨Nat.le_of_ble_eq_true rfl, Nat.le_of_ble_eq_true rfl⟩ ⟨rfl, rfl⟩ (Nat.le_of_ble_eq_true rfl) fl_X3_15 (v := .int (i 75 1)) rfl dX3_putApart_1 ?_
  refine lv_if_le (pc := 4) (tgt := 13) C0.1 C0.2.1 dX3_putApart_4 (by decide) (fun c1 => ?_) (fun c1 => ?_)
  · have : Int32.toInt 0 = 0 := rfl
    have c1 := Int32.le_iff_toInt_le.mp c1
    exact xvret (pc := 13) C0 hr hH hS dX3_putApart_13 ⟨On.rf, hpg.1, hpg.2⟩
  · have : Int32.toInt 0 = 0 := rfl
    have c1 : ¬ _ := fun q => c1 (Int32.le_iff_toInt_le.mpr q)
    refine lv_aload_n (pc := 7) C0.1 C0.2.1 dX3_putApart_7 rfl (lv_at hl 0 rfl) ?_
    refine lv_bipush (pc := 8) (v := 32) C0.1 C0.2.1 dX3_putApart_8 (by decide) ?_
    refine xcVV (pc := 10) 75 [.int 32] (g_X3_put_75 l D tA b i F G 32 (by omega)) C0 hH hS clX3 rfl ⟨⟨Nat.le_of_ble_eq_true rfl, Nat.le_of_ble_eq_true rfl⟩, rfl, rfl⟩ cw_X3_23 rfl ⟨Nat.le_of_ble_eq_true rfl, Nat.le_of_ble_eq_true rfl⟩ hl.1 rfl (Nat.le_of_ble_eq_true rfl) dX3_putApart_10 ⟨Nat.le_of_ble_eq_true rfl, Nat.le_of_ble_eq_true rfl⟩ (fun ir2 Fr2 Gr2 _ locs hp hH hS => ?_)
    obtain ⟨honr2, hs1r2, hs2r2⟩ := hp
    dsimp only at hs1r2 hs2r2
    exact xvret (pc := 13) C0 hr hH hS dX3_putApart_13 ⟨honr2, hs1r2, hs2r2⟩
set_option maxHeartbeats 4000000 in
set_option maxRecDepth 100000 in
theorem g_X3_putToken_75 (l : Launch) (D : va_G) (tA : Nat → ClassId) (b : Nat) (i F : Nat → Nat → Int32) (G : Nat → Nat → Int64) (x y : Int32) (hpg : 0 ≤ (i 75 1).toInt ∧ (i 75 1).toInt ≤ 4000) (hsz : 0 ≤ (i 4 1).toInt ∧ (i 4 1).toInt ≤ 600) : xMV l yX3_putToken cX3_putToken 5 none 1 21 D tA b 0 78 i F G [.ref (b + 75), .ref (b + 4), .int x, .int y] (fun u => On 75 77 i F G u ∧ 0 ≤ (u.1 75 1).toInt ∧ (u.1 75 1).toInt ≤ 4000) := by
  refine xstart RX3 rfl (by decide) (Nat.le_of_ble_eq_true rfl) ?_
  intro p e s m below meth c ls C0 hr hH hS hl
  have hl : lv_has ls 5 [(0, .ref (b + 75)), (1, .ref (b + 4)), (2, .int x), (3, .int y)] := hl
  have rg_x := fb_rng x
  have rg_y := fb_rng y
  have LOOP : ∀ (d : Nat) (j : Int32) (iv Fv : Nat → Nat → Int32) (Gv : Nat → Nat → Int64) (H : Heap) (locs : List Loc) (ls : Array Slot), (0 ≤ j.toInt) → (y.toInt - j.toInt ≤ d) → (On 75 77 i F G (iv, Fv, Gv)) → (0 ≤ (iv 75 1).toInt ∧ (iv 75 1).toInt ≤ 4000) → Hd D tA b 0 78 zz iv Fv Gv H → va_S (xA b 0 78) s.heap H locs → lv_has ls 5 [(4, .int j), (1, .ref (b + 4)), (2, .int x), (3, .int y), (0, .ref (b + 75))] → W p l e (xR 1 21) s m ([.ref (b + 75), .ref (b + 4), .int x, .int y] : List Value).toArray below meth c H locs 0 0 (MQ below (va_Qv (fun u => On 75 77 i F G u ∧ 0 ≤ (u.1 75 1).toInt ∧ (u.1 75 1).toInt ≤ 4000) (xB D tA b 0 78 zz) (xA b 0 78)) ([.ref (b + 75), .ref (b + 4), .int x, .int y] : List Value).toArray s 0 0 (xA b 0 78)) (F0 m 3 ls []) := by
    intro d
    induction d with
    | zero =>
      intro j iv Fv Gv H locs ls h1 h2 h3 h4 hH hS hl
      have rg_j := fb_rng j
      refine lv_iload (pc := 3) C0.1 C0.2.1 dX3_putToken_3 (lv_at hl 0 rfl) ?_
      refine lv_iload_n (pc := 5) C0.1 C0.2.1 dX3_putToken_5 rfl (lv_at hl 3 rfl) ?_
      refine lv_icmp_ge (pc := 6) (tgt := 27) C0.1 C0.2.1 dX3_putToken_6 (by decide) (fun _ => ?_) (fun c => absurd (Int32.le_iff_toInt_le.mpr (by omega)) c)
      exact xvret (pc := 27) C0 hr hH hS dX3_putToken_27 ⟨h3, h4.1, h4.2⟩
    | succ d ih =>
      intro j iv Fv Gv H locs ls h1 h2 h3 h4 hH hS hl
      have rg_j := fb_rng j
      refine lv_iload (pc := 3) C0.1 C0.2.1 dX3_putToken_3 (lv_at hl 0 rfl) ?_
      refine lv_iload_n (pc := 5) C0.1 C0.2.1 dX3_putToken_5 rfl (lv_at hl 3 rfl) ?_
      refine lv_icmp_ge (pc := 6) (tgt := 27) C0.1 C0.2.1 dX3_putToken_6 (by decide) (fun c101 => ?_) (fun c101 => ?_)
      · have c101 := Int32.le_iff_toInt_le.mp c101
        exact xvret (pc := 27) C0 hr hH hS dX3_putToken_27 ⟨h3, h4.1, h4.2⟩
      · have c101 : ¬ _ := fun q => c101 (Int32.le_iff_toInt_le.mpr q)
        refine lv_aload_n (pc := 9) C0.1 C0.2.1 dX3_putToken_9 rfl (lv_at hl 4 rfl) ?_
        refine lv_aload_n (pc := 10) C0.1 C0.2.1 dX3_putToken_10 rfl (lv_at hl 1 rfl) ?_
        refine lv_iload_n (pc := 11) C0.1 C0.2.1 dX3_putToken_11 rfl (lv_at hl 2 rfl) ?_
        refine lv_iload (pc := 12) C0.1 C0.2.1 dX3_putToken_12 (lv_at hl 0 rfl) ?_
        refine lv_iadd (pc := 14) C0.1 C0.2.1 dX3_putToken_14 ?_
        refine xcVI (pc := 15) 4 [.int (x + j)] (g_X6_at_4 l D tA b iv Fv Gv (x + j) (by have q := congrFun (h3.1 4 (by decide)).1 1; dsimp only at q; rw [q]; exact hsz)) C0 hH hS clX6 rfl ⟨⟨Nat.le_of_ble_eq_true rfl, Nat.le_of_ble_eq_true rfl⟩, rfl, rfl⟩ cw_X3_27 rfl ⟨Nat.le_of_ble_eq_true rfl, Nat.le_of_ble_eq_true rfl⟩ hl.1 rfl (Nat.le_of_ble_eq_true rfl) dX3_putToken_15 ⟨Nat.le_of_ble_eq_true rfl, Nat.le_of_ble_eq_true rfl⟩ (fun r102 ir102 Fr102 Gr102 _ locs hp hH hS => ?_)
        obtain ⟨hu, hpr102⟩ := hp
        cases hu
        refine xcVV (pc := 18) 75 [.int r102] (g_X3_put_75 l D tA b iv Fv Gv r102 (by omega)) C0 hH hS clX3 rfl ⟨⟨Nat.le_of_ble_eq_true rfl, Nat.le_of_ble_eq_true rfl⟩, rfl, rfl⟩ cw_X3_23 rfl ⟨Nat.le_of_ble_eq_true rfl, Nat.le_of_ble_eq_true rfl⟩ hl.1 rfl (Nat.le_of_ble_eq_true rfl) dX3_putToken_18 ⟨Nat.le_of_ble_eq_true rfl, Nat.le_of_ble_eq_true rfl⟩ (fun ir103 Fr103 Gr103 _ locs hp hH hS => ?_)
        obtain ⟨honr103, hs1r103, hs2r103⟩ := hp
        dsimp only at hs1r103 hs2r103
        obtain ⟨x104, ex104⟩ : ∃ y_ : Int32, y_ = j + 1 := ⟨_, rfl⟩
        have : Int32.toInt 1 = 1 := rfl
        have hx104 : Int32.toInt x104 = Int32.toInt j + Int32.toInt 1 := by rw [ex104]; exact fb_addI (by omega) (by omega)
        refine lv_iinc (pc := 21) (v := x104) (lv' := [(4, .int x104), (1, .ref (b + 4)), (2, .int x), (3, .int y), (0, .ref (b + 75))]) C0.1 C0.2.1 dX3_putToken_21 hl (k := 0) rfl (by rw [ex104]; rfl) (by decide) rfl (fun ls hl => ?_)
        refine lv_goto (pc := 24) (tgt := 3) C0.1 C0.2.1 dX3_putToken_24 (by decide) ?_
        exact ih x104 _ _ _ _ _ _ (by omega) (by omega) (On.tr h3 honr103 (Nat.le_refl _) (Nat.le_refl _)) ⟨by omega, by omega⟩ hH hS (lv_sub hl [0, 1, 2, 3, 4] rfl)
  refine lv_iconst (pc := 0) (v := 0) C0.1 C0.2.1 dX3_putToken_0 (by decide) ?_
  refine lv_istore (pc := 1) (lv' := [(4, .int 0), (0, .ref (b + 75)), (1, .ref (b + 4)), (2, .int x), (3, .int y)]) C0.1 C0.2.1 dX3_putToken_1 hl (by decide) rfl (fun ls hl => ?_)
  exact LOOP (y.toInt).toNat 0 i F G _ _ _ (by have : Int32.toInt 0 = 0 := rfl; omega) (by have : Int32.toInt 0 = 0 := rfl; omega) On.rf hpg hH hS (lv_sub hl [0, 2, 3, 4, 1] rfl)
