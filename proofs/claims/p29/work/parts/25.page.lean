set_option maxRecDepth 20000 in
theorem fl_X3_15 : Cond.fieldLink RX3 15 (TX3 1).1 (TX3 1).2.1 (TX3 1).2.2.1 ∈ WALL := wm 362 (by decide +kernel) rfl
set_option maxRecDepth 20000 in
theorem fl_X3_19 : Cond.fieldLink RX3 19 (TX3 2).1 (TX3 2).2.1 (TX3 2).2.2.1 ∈ WALL := wm 365 (by decide +kernel) rfl
set_option maxRecDepth 20000 in
theorem cw_X3_23 : CwV RX3 23 yX3_put cX3_put 2 none 1 := ⟨wm 897 (by decide +kernel) rfl, wm 898 (by decide +kernel) rfl, wm 899 (by decide +kernel) rfl, wm 10 (by decide +kernel) rfl, wm 900 rfl rfl, by decide +kernel⟩
theorem dX3_put_0 : decode cX3_put 0 = .ok (.aload_n 0, 1) := by decide +kernel
theorem dX3_put_1 : decode cX3_put 1 = .ok (.getfield 15, 3) := by decide +kernel
theorem dX3_put_4 : decode cX3_put 4 = .ok (.aload_n 0, 1) := by decide +kernel
theorem dX3_put_5 : decode cX3_put 5 = .ok (.getfield 9, 3) := by decide +kernel
theorem dX3_put_8 : decode cX3_put 8 = .ok (.arraylength, 1) := by decide +kernel
theorem dX3_put_9 : decode cX3_put 9 = .ok (.if_icmp .lt 9, 3) := by decide +kernel
theorem dX3_put_18 : decode cX3_put 18 = .ok (.aload_n 0, 1) := by decide +kernel
theorem dX3_put_19 : decode cX3_put 19 = .ok (.getfield 9, 3) := by decide +kernel
theorem dX3_put_22 : decode cX3_put 22 = .ok (.aload_n 0, 1) := by decide +kernel
theorem dX3_put_23 : decode cX3_put 23 = .ok (.getfield 15, 3) := by decide +kernel
theorem dX3_put_26 : decode cX3_put 26 = .ok (.iload_n 1, 1) := by decide +kernel
theorem dX3_put_27 : decode cX3_put 27 = .ok (.i2b, 1) := by decide +kernel
theorem dX3_put_28 : decode cX3_put 28 = .ok (.bastore, 1) := by decide +kernel
theorem dX3_put_29 : decode cX3_put 29 = .ok (.aload_n 0, 1) := by decide +kernel
theorem dX3_put_30 : decode cX3_put 30 = .ok (.dup, 1) := by decide +kernel
theorem dX3_put_31 : decode cX3_put 31 = .ok (.getfield 15, 3) := by decide +kernel
theorem dX3_put_34 : decode cX3_put 34 = .ok (.iconst 1, 1) := by decide +kernel
theorem dX3_put_35 : decode cX3_put 35 = .ok (.iadd, 1) := by decide +kernel
theorem dX3_put_36 : decode cX3_put 36 = .ok (.putfield 15, 3) := by decide +kernel
theorem dX3_put_39 : decode cX3_put 39 = .ok (.return_, 1) := by decide +kernel
theorem dX3_put_12 : decode cX3_put 12 = .ok (.aload_n 0, 1) := by decide +kernel
theorem dX3_put_13 : decode cX3_put 13 = .ok (.iconst 1, 1) := by decide +kernel
theorem dX3_put_14 : decode cX3_put 14 = .ok (.putfield 19, 3) := by decide +kernel
theorem dX3_put_17 : decode cX3_put 17 = .ok (.return_, 1) := by decide +kernel
theorem dX3_clear_0 : decode cX3_clear 0 = .ok (.aload_n 0, 1) := by decide +kernel
theorem dX3_clear_1 : decode cX3_clear 1 = .ok (.iconst 0, 1) := by decide +kernel
theorem dX3_clear_2 : decode cX3_clear 2 = .ok (.putfield 15, 3) := by decide +kernel
theorem dX3_clear_5 : decode cX3_clear 5 = .ok (.aload_n 0, 1) := by decide +kernel
theorem dX3_clear_6 : decode cX3_clear 6 = .ok (.iconst 0, 1) := by decide +kernel
theorem dX3_clear_7 : decode cX3_clear 7 = .ok (.putfield 19, 3) := by decide +kernel
theorem dX3_clear_10 : decode cX3_clear 10 = .ok (.return_, 1) := by decide +kernel
theorem dX3_putBlanks_0 : decode cX3_putBlanks 0 = .ok (.iconst 0, 1) := by decide +kernel
theorem dX3_putBlanks_1 : decode cX3_putBlanks 1 = .ok (.istore_n 2, 1) := by decide +kernel
theorem dX3_putBlanks_2 : decode cX3_putBlanks 2 = .ok (.iload_n 2, 1) := by decide +kernel
theorem dX3_putBlanks_3 : decode cX3_putBlanks 3 = .ok (.iload_n 1, 1) := by decide +kernel
theorem dX3_putBlanks_4 : decode cX3_putBlanks 4 = .ok (.if_icmp .ge 22, 3) := by decide +kernel
theorem dX3_putBlanks_26 : decode cX3_putBlanks 26 = .ok (.return_, 1) := by decide +kernel
theorem dX3_putBlanks_7 : decode cX3_putBlanks 7 = .ok (.aload_n 0, 1) := by decide +kernel
theorem dX3_putBlanks_8 : decode cX3_putBlanks 8 = .ok (.getfield 19, 3) := by decide +kernel
theorem dX3_putBlanks_11 : decode cX3_putBlanks 11 = .ok (.ifCond .ne 15, 3) := by decide +kernel
theorem dX3_putBlanks_14 : decode cX3_putBlanks 14 = .ok (.aload_n 0, 1) := by decide +kernel
theorem dX3_putBlanks_15 : decode cX3_putBlanks 15 = .ok (.bipush 32, 2) := by decide +kernel
theorem dX3_putBlanks_17 : decode cX3_putBlanks 17 = .ok (.invokevirtual 23, 3) := by decide +kernel
theorem dX3_putBlanks_20 : decode cX3_putBlanks 20 = .ok (.iinc 2 1, 3) := by decide +kernel
theorem dX3_putBlanks_23 : decode cX3_putBlanks 23 = .ok (.goto (-21), 3) := by decide +kernel
set_option maxHeartbeats 4000000 in
set_option maxRecDepth 100000 in
theorem g_X3_put_73 (l : Launch) (D : va_G) (tA : Nat → ClassId) (b : Nat) (i F : Nat → Nat → Int32) (G : Nat → Nat → Int64) (x : Int32) (hpg : 0 ≤ (i 73 1).toInt ∧ (i 73 1).toInt ≤ 4000) : xMV l yX3_put cX3_put 2 none 0 0 D tA b 0 78 i F G [.ref (b + 73), .int x] (fun u => On 73 75 i F G u ∧ 0 ≤ (u.1 73 1).toInt ∧ (u.1 73 1).toInt ≤ 4000) := by
  refine xstart RX3 rfl (by decide) (Nat.le_of_ble_eq_true rfl) ?_
  intro p e s m below meth c ls C0 hr hH hS hl
  have hl : lv_has ls 2 [(0, .ref (b + 73)), (1, .int x)] := hl
  have rg_x := fb_rng x
  have h40 : Int32.toInt (nI 4000) = 4000 := rfl
  refine lv_aload_n (pc := 0) C0.1 C0.2.1 dX3_put_0 rfl (lv_at hl 0 rfl) ?_
  refine xget (pc := 1) C0 hH 73 1 clX3 ⟨Nat.le_of_ble_eq_true rfl, Nat.le_of_ble_eq_true rfl⟩ ⟨rfl, rfl⟩ (Nat.le_of_ble_eq_true rfl) fl_X3_15 (v := .int (i 73 1)) rfl dX3_put_1 ?_
  refine lv_aload_n (pc := 4) C0.1 C0.2.1 dX3_put_4 rfl (lv_at hl 0 rfl) ?_
  refine xget (pc := 5) C0 hH 73 0 clX3 ⟨Nat.le_of_ble_eq_true rfl, Nat.le_of_ble_eq_true rfl⟩ ⟨rfl, rfl⟩ (Nat.le_of_ble_eq_true rfl) fl_X3_9 (v := .ref (b + 74)) rfl dX3_put_5 ?_
  refine xalen (pc := 8) (N := 4000) (t := 51) C0 hH 74 ⟨Nat.le_of_ble_eq_true rfl, Nat.le_of_ble_eq_true rfl⟩ ⟨rfl, rfl⟩ (by decide) dX3_put_8 ?_
  refine lv_icmp_lt (pc := 9) (tgt := 18) C0.1 C0.2.1 dX3_put_9 (by decide) (fun c1 => ?_) (fun c1 => ?_)
  · have c1 := Int32.lt_iff_toInt_lt.mp c1
    refine lv_aload_n (pc := 18) C0.1 C0.2.1 dX3_put_18 rfl (lv_at hl 0 rfl) ?_
    refine xget (pc := 19) C0 hH 73 0 clX3 ⟨Nat.le_of_ble_eq_true rfl, Nat.le_of_ble_eq_true rfl⟩ ⟨rfl, rfl⟩ (Nat.le_of_ble_eq_true rfl) fl_X3_9 (v := .ref (b + 74)) rfl dX3_put_19 ?_
    refine lv_aload_n (pc := 22) C0.1 C0.2.1 dX3_put_22 rfl (lv_at hl 0 rfl) ?_
    refine xget (pc := 23) C0 hH 73 1 clX3 ⟨Nat.le_of_ble_eq_true rfl, Nat.le_of_ble_eq_true rfl⟩ ⟨rfl, rfl⟩ (Nat.le_of_ble_eq_true rfl) fl_X3_15 (v := .int (i 73 1)) rfl dX3_put_23 ?_
    refine lv_iload_n (pc := 26) C0.1 C0.2.1 dX3_put_26 rfl (lv_at hl 1 rfl) ?_
    refine lv_i2b (pc := 27) (v := x.toInt8.toInt32) C0.1 C0.2.1 dX3_put_27 rfl ?_
    refine xbast (pc := 28) (N := 4000) C0 (Nat.le_of_ble_eq_true rfl) hH hS 74 ⟨Nat.le_of_ble_eq_true rfl, Nat.le_of_ble_eq_true rfl⟩ ⟨rfl, rfl⟩ (vI (by omega) (by omega)) dX3_put_28 (fun _ locs hH hS => ?_)
    have hH : Hd D tA b 0 78 zz i (va_up F 74 (upd (F 74) (Int32.toNatClampNeg (i 73 1)) (Int8.toInt32 (Int32.toInt8 x.toInt8.toInt32)))) G _ := hH
    refine lv_aload_n (pc := 29) C0.1 C0.2.1 dX3_put_29 rfl (lv_at hl 0 rfl) ?_
    refine lv_dup (pc := 30) C0.1 C0.2.1 dX3_put_30 rfl ?_
    refine xget (pc := 31) C0 hH 73 1 clX3 ⟨Nat.le_of_ble_eq_true rfl, Nat.le_of_ble_eq_true rfl⟩ ⟨rfl, rfl⟩ (Nat.le_of_ble_eq_true rfl) fl_X3_15 (v := .int (i 73 1)) rfl dX3_put_31 ?_
    refine lv_iconst (pc := 34) (v := 1) C0.1 C0.2.1 dX3_put_34 (by decide) ?_
    have : Int32.toInt 1 = 1 := rfl
    refine lv_iadd (pc := 35) C0.1 C0.2.1 dX3_put_35 ?_
    refine lv_topi (fun x2 ex2 => ?_)
    have hx2 : Int32.toInt x2 = Int32.toInt (i 73 1) + Int32.toInt 1 := by rw [ex2]; exact fb_addI (by omega) (by omega)
    refine xputI (pc := 36) C0 (Nat.le_of_ble_eq_true rfl) hH hS 73 1 clX3 ⟨Nat.le_of_ble_eq_true rfl, Nat.le_of_ble_eq_true rfl⟩ ⟨rfl, rfl⟩ ⟨Nat.le_of_ble_eq_true rfl, rfl, rfl⟩ fl_X3_15 (x := x2) ⟨rfl, rfl⟩ dX3_put_36 (fun _ locs hH hS _ => ?_)
    have hH : Hd D tA b 0 78 zz (up2 i 73 1 x2) (va_up F 74 (upd (F 74) (Int32.toNatClampNeg (i 73 1)) (Int8.toInt32 (Int32.toInt8 x.toInt8.toInt32)))) G _ := hH
    exact xvret (pc := 39) C0 hr hH hS dX3_put_39 ⟨(On.f (On.i On.rf (by decide)) (by decide)), by show 0 ≤ Int32.toInt x2; omega, by show Int32.toInt x2 ≤ 4000; omega⟩
  · have c1 : ¬ _ := fun q => c1 (Int32.lt_iff_toInt_lt.mpr q)
    refine lv_aload_n (pc := 12) C0.1 C0.2.1 dX3_put_12 rfl (lv_at hl 0 rfl) ?_
    refine lv_iconst (pc := 13) (v := 1) C0.1 C0.2.1 dX3_put_13 (by decide) ?_
    refine xputI (pc := 14) C0 (Nat.le_of_ble_eq_true rfl) hH hS 73 2 clX3 ⟨Nat.le_of_ble_eq_true rfl, Nat.le_of_ble_eq_true rfl⟩ ⟨rfl, rfl⟩ ⟨Nat.le_of_ble_eq_true rfl, rfl, rfl⟩ fl_X3_19 (x := 1) ⟨rfl, rfl⟩ dX3_put_14 (fun _ locs hH hS _ => ?_)
    have hH : Hd D tA b 0 78 zz (up2 i 73 2 1) F G _ := hH
    exact xvret (pc := 17) C0 hr hH hS dX3_put_17 ⟨(On.i On.rf (by decide)), by show 0 ≤ Int32.toInt (i 73 1); omega, by show Int32.toInt (i 73 1) ≤ 4000; omega⟩
set_option maxHeartbeats 4000000 in
set_option maxRecDepth 100000 in
theorem g_X3_clear_73 (l : Launch) (D : va_G) (tA : Nat → ClassId) (b : Nat) (i F : Nat → Nat → Int32) (G : Nat → Nat → Int64)   : xMV l yX3_clear cX3_clear 1 none 0 0 D tA b 0 78 i F G [.ref (b + 73)] (fun u => On 73 75 i F G u ∧ 0 ≤ (u.1 73 1).toInt ∧ (u.1 73 1).toInt ≤ 4000) := by
  refine xstart RX3 rfl (by decide) (Nat.le_of_ble_eq_true rfl) ?_
  intro p e s m below meth c ls C0 hr hH hS hl
  have hl : lv_has ls 1 [(0, .ref (b + 73))] := hl
  refine lv_aload_n (pc := 0) C0.1 C0.2.1 dX3_clear_0 rfl (lv_at hl 0 rfl) ?_
  refine lv_iconst (pc := 1) (v := 0) C0.1 C0.2.1 dX3_clear_1 (by decide) ?_
  refine xputI (pc := 2) C0 (Nat.le_of_ble_eq_true rfl) hH hS 73 1 clX3 ⟨Nat.le_of_ble_eq_true rfl, Nat.le_of_ble_eq_true rfl⟩ ⟨rfl, rfl⟩ ⟨Nat.le_of_ble_eq_true rfl, rfl, rfl⟩ fl_X3_15 (x := 0) ⟨rfl, rfl⟩ dX3_clear_2 (fun _ locs hH hS _ => ?_)
  have hH : Hd D tA b 0 78 zz (up2 i 73 1 0) F G _ := hH
  refine lv_aload_n (pc := 5) C0.1 C0.2.1 dX3_clear_5 rfl (lv_at hl 0 rfl) ?_
  refine lv_iconst (pc := 6) (v := 0) C0.1 C0.2.1 dX3_clear_6 (by decide) ?_
  refine xputI (pc := 7) C0 (Nat.le_of_ble_eq_true rfl) hH hS 73 2 clX3 ⟨Nat.le_of_ble_eq_true rfl, Nat.le_of_ble_eq_true rfl⟩ ⟨rfl, rfl⟩ ⟨Nat.le_of_ble_eq_true rfl, rfl, rfl⟩ fl_X3_19 (x := 0) ⟨rfl, rfl⟩ dX3_clear_7 (fun _ locs hH hS _ => ?_)
  have hH : Hd D tA b 0 78 zz (up2 (up2 i 73 1 0) 73 2 0) F G _ := hH
  exact xvret (pc := 10) C0 hr hH hS dX3_clear_10 ⟨(On.i (On.i On.rf (by decide)) (by decide)), by show 0 ≤ Int32.toInt 0; decide, by show Int32.toInt 0 ≤ 4000; decide⟩
set_option maxHeartbeats 4000000 in
set_option maxRecDepth 100000 in
theorem g_X3_putBlanks_73 (l : Launch) (D : va_G) (tA : Nat → ClassId) (b : Nat) (i F : Nat → Nat → Int32) (G : Nat → Nat → Int64) (x : Int32) (hpg : 0 ≤ (i 73 1).toInt ∧ (i 73 1).toInt ≤ 4000) : xMV l yX3_putBlanks cX3_putBlanks 3 none 1 21 D tA b 0 78 i F G [.ref (b + 73), .int x] (fun u => On 73 75 i F G u ∧ 0 ≤ (u.1 73 1).toInt ∧ (u.1 73 1).toInt ≤ 4000) := by
  refine xstart RX3 rfl (by decide) (Nat.le_of_ble_eq_true rfl) ?_
  intro p e s m below meth c ls C0 hr hH hS hl
  have hl : lv_has ls 3 [(0, .ref (b + 73)), (1, .int x)] := hl
  have rg_x := fb_rng x
  have LOOP : ∀ (d : Nat) (j : Int32) (iv Fv : Nat → Nat → Int32) (Gv : Nat → Nat → Int64) (H : Heap) (locs : List Loc) (ls : Array Slot), (0 ≤ j.toInt) → (x.toInt - j.toInt ≤ d) → (On 73 75 i F G (iv, Fv, Gv)) → (0 ≤ (iv 73 1).toInt ∧ (iv 73 1).toInt ≤ 4000) → Hd D tA b 0 78 zz iv Fv Gv H → va_S (xA b 0 78) s.heap H locs → lv_has ls 3 [(2, .int j), (1, .int x), (0, .ref (b + 73))] → W p l e (xR 1 21) s m ([.ref (b + 73), .int x] : List Value).toArray below meth c H locs 0 0 (MQ below (va_Qv (fun u => On 73 75 i F G u ∧ 0 ≤ (u.1 73 1).toInt ∧ (u.1 73 1).toInt ≤ 4000) (xB D tA b 0 78 zz) (xA b 0 78)) ([.ref (b + 73), .int x] : List Value).toArray s 0 0 (xA b 0 78)) (F0 m 2 ls []) := by
    intro d
    induction d with
    | zero =>
      intro j iv Fv Gv H locs ls h1 h2 h3 h4 hH hS hl
      have rg_j := fb_rng j
      refine lv_iload_n (pc := 2) C0.1 C0.2.1 dX3_putBlanks_2 rfl (lv_at hl 0 rfl) ?_
      refine lv_iload_n (pc := 3) C0.1 C0.2.1 dX3_putBlanks_3 rfl (lv_at hl 1 rfl) ?_
      refine lv_icmp_ge (pc := 4) (tgt := 26) C0.1 C0.2.1 dX3_putBlanks_4 (by decide) (fun _ => ?_) (fun c => absurd (Int32.le_iff_toInt_le.mpr (by omega)) c)
      exact xvret (pc := 26) C0 hr hH hS dX3_putBlanks_26 ⟨h3, h4.1, h4.2⟩
    | succ d ih =>
      intro j iv Fv Gv H locs ls h1 h2 h3 h4 hH hS hl
      have rg_j := fb_rng j
      refine lv_iload_n (pc := 2) C0.1 C0.2.1 dX3_putBlanks_2 rfl (lv_at hl 0 rfl) ?_
      refine lv_iload_n (pc := 3) C0.1 C0.2.1 dX3_putBlanks_3 rfl (lv_at hl 1 rfl) ?_
      refine lv_icmp_ge (pc := 4) (tgt := 26) C0.1 C0.2.1 dX3_putBlanks_4 (by decide) (fun c101 => ?_) (fun c101 => ?_)
      · have c101 := Int32.le_iff_toInt_le.mp c101
        exact xvret (pc := 26) C0 hr hH hS dX3_putBlanks_26 ⟨h3, h4.1, h4.2⟩
      · have c101 : ¬ _ := fun q => c101 (Int32.le_iff_toInt_le.mpr q)
        refine lv_aload_n (pc := 7) C0.1 C0.2.1 dX3_putBlanks_7 rfl (lv_at hl 2 rfl) ?_
        refine xget (pc := 8) C0 hH 73 2 clX3 ⟨Nat.le_of_ble_eq_true rfl, Nat.le_of_ble_eq_true rfl⟩ ⟨rfl, rfl⟩ (Nat.le_of_ble_eq_true rfl) fl_X3_19 (v := .int (iv 73 2)) rfl dX3_putBlanks_8 ?_
        refine lv_if_ne (pc := 11) (tgt := 26) C0.1 C0.2.1 dX3_putBlanks_11 (by decide) (fun c102 => ?_) (fun c102 => ?_)
        · have : Int32.toInt 0 = 0 := rfl
          have c102 : ¬ _ := fun q => c102 (Int32.toInt_inj.mp q)
          exact xvret (pc := 26) C0 hr hH hS dX3_putBlanks_26 ⟨h3, h4.1, h4.2⟩
        · have : Int32.toInt 0 = 0 := rfl
          have c102 := congrArg Int32.toInt c102
          refine lv_aload_n (pc := 14) C0.1 C0.2.1 dX3_putBlanks_14 rfl (lv_at hl 2 rfl) ?_
          refine lv_bipush (pc := 15) (v := 32) C0.1 C0.2.1 dX3_putBlanks_15 (by decide) ?_
          refine xcVV (pc := 17) 73 [.int 32] (g_X3_put_73 l D tA b iv Fv Gv 32 (by omega)) C0 hH hS clX3 rfl ⟨⟨Nat.le_of_ble_eq_true rfl, Nat.le_of_ble_eq_true rfl⟩, rfl, rfl⟩ cw_X3_23 rfl ⟨Nat.le_of_ble_eq_true rfl, Nat.le_of_ble_eq_true rfl⟩ hl.1 rfl (Nat.le_of_ble_eq_true rfl) dX3_putBlanks_17 ⟨Nat.le_of_ble_eq_true rfl, Nat.le_of_ble_eq_true rfl⟩ (fun ir103 Fr103 Gr103 _ locs hp hH hS => ?_)
          obtain ⟨honr103, hs1r103, hs2r103⟩ := hp
          dsimp only at hs1r103 hs2r103
          obtain ⟨x104, ex104⟩ : ∃ y_ : Int32, y_ = j + 1 := ⟨_, rfl⟩
          have : Int32.toInt 1 = 1 := rfl
          have hx104 : Int32.toInt x104 = Int32.toInt j + Int32.toInt 1 := by rw [ex104]; exact fb_addI (by omega) (by omega)
          refine lv_iinc (pc := 20) (v := x104) (lv' := [(2, .int x104), (1, .int x), (0, .ref (b + 73))]) C0.1 C0.2.1 dX3_putBlanks_20 hl (k := 0) rfl (by rw [ex104]; rfl) (by decide) rfl (fun ls hl => ?_)
          refine lv_goto (pc := 23) (tgt := 2) C0.1 C0.2.1 dX3_putBlanks_23 (by decide) ?_
          exact ih x104 _ _ _ _ _ _ (by omega) (by omega) (On.tr h3 honr103 (Nat.le_refl _) (Nat.le_refl _)) ⟨by omega, by omega⟩ hH hS (lv_sub hl [0, 1, 2] rfl)
  refine lv_iconst (pc := 0) (v := 0) C0.1 C0.2.1 dX3_putBlanks_0 (by decide) ?_
  refine lv_istore_n (pc := 1) (lv' := [(2, .int 0), (0, .ref (b + 73)), (1, .int x)]) C0.1 C0.2.1 dX3_putBlanks_1 rfl hl (by decide) rfl (fun ls hl => ?_)
  exact LOOP (x.toInt).toNat 0 i F G _ _ _ (by have : Int32.toInt 0 = 0 := rfl; omega) (by have : Int32.toInt 0 = 0 := rfl; omega) On.rf hpg hH hS (lv_sub hl [0, 2, 1] rfl)
set_option maxHeartbeats 4000000 in
set_option maxRecDepth 100000 in
theorem g_X3_put_75 (l : Launch) (D : va_G) (tA : Nat → ClassId) (b : Nat) (i F : Nat → Nat → Int32) (G : Nat → Nat → Int64) (x : Int32) (hpg : 0 ≤ (i 75 1).toInt ∧ (i 75 1).toInt ≤ 4000) : xMV l yX3_put cX3_put 2 none 0 0 D tA b 0 78 i F G [.ref (b + 75), .int x] (fun u => On 75 77 i F G u ∧ 0 ≤ (u.1 75 1).toInt ∧ (u.1 75 1).toInt ≤ 4000) := by
  refine xstart RX3 rfl (by decide) (Nat.le_of_ble_eq_true rfl) ?_
  intro p e s m below meth c ls C0 hr hH hS hl
  have hl : lv_has ls 2 [(0, .ref (b + 75)), (1, .int x)] := hl
  have rg_x := fb_rng x
  have h40 : Int32.toInt (nI 4000) = 4000 := rfl
  refine lv_aload_n (pc := 0) C0.1 C0.2.1 dX3_put_0 rfl (lv_at hl 0 rfl) ?_
  refine xget (pc := 1) C0 hH 75 1 clX3 ⟨Nat.le_of_ble_eq_true rfl, Nat.le_of_ble_eq_true rfl⟩ ⟨rfl, rfl⟩ (Nat.le_of_ble_eq_true rfl) fl_X3_15 (v := .int (i 75 1)) rfl dX3_put_1 ?_
  refine lv_aload_n (pc := 4) C0.1 C0.2.1 dX3_put_4 rfl (lv_at hl 0 rfl) ?_
  refine xget (pc := 5) C0 hH 75 0 clX3 ⟨Nat.le_of_ble_eq_true rfl, Nat.le_of_ble_eq_true rfl⟩ ⟨rfl, rfl⟩ (Nat.le_of_ble_eq_true rfl) fl_X3_9 (v := .ref (b + 76)) rfl dX3_put_5 ?_
  refine xalen (pc := 8) (N := 4000) (t := 51) C0 hH 76 ⟨Nat.le_of_ble_eq_true rfl, Nat.le_of_ble_eq_true rfl⟩ ⟨rfl, rfl⟩ (by decide) dX3_put_8 ?_
  refine lv_icmp_lt (pc := 9) (tgt := 18) C0.1 C0.2.1 dX3_put_9 (by decide) (fun c1 => ?_) (fun c1 => ?_)
  · have c1 := Int32.lt_iff_toInt_lt.mp c1
    refine lv_aload_n (pc := 18) C0.1 C0.2.1 dX3_put_18 rfl (lv_at hl 0 rfl) ?_
    refine xget (pc := 19) C0 hH 75 0 clX3 ⟨Nat.le_of_ble_eq_true rfl, Nat.le_of_ble_eq_true rfl⟩ ⟨rfl, rfl⟩ (Nat.le_of_ble_eq_true rfl) fl_X3_9 (v := .ref (b + 76)) rfl dX3_put_19 ?_
    refine lv_aload_n (pc := 22) C0.1 C0.2.1 dX3_put_22 rfl (lv_at hl 0 rfl) ?_
    refine xget (pc := 23) C0 hH 75 1 clX3 ⟨Nat.le_of_ble_eq_true rfl, Nat.le_of_ble_eq_true rfl⟩ ⟨rfl, rfl⟩ (Nat.le_of_ble_eq_true rfl) fl_X3_15 (v := .int (i 75 1)) rfl dX3_put_23 ?_
    refine lv_iload_n (pc := 26) C0.1 C0.2.1 dX3_put_26 rfl (lv_at hl 1 rfl) ?_
    refine lv_i2b (pc := 27) (v := x.toInt8.toInt32) C0.1 C0.2.1 dX3_put_27 rfl ?_
    refine xbast (pc := 28) (N := 4000) C0 (Nat.le_of_ble_eq_true rfl) hH hS 76 ⟨Nat.le_of_ble_eq_true rfl, Nat.le_of_ble_eq_true rfl⟩ ⟨rfl, rfl⟩ (vI (by omega) (by omega)) dX3_put_28 (fun _ locs hH hS => ?_)
    have hH : Hd D tA b 0 78 zz i (va_up F 76 (upd (F 76) (Int32.toNatClampNeg (i 75 1)) (Int8.toInt32 (Int32.toInt8 x.toInt8.toInt32)))) G _ := hH
    refine lv_aload_n (pc := 29) C0.1 C0.2.1 dX3_put_29 rfl (lv_at hl 0 rfl) ?_
    refine lv_dup (pc := 30) C0.1 C0.2.1 dX3_put_30 rfl ?_
    refine xget (pc := 31) C0 hH 75 1 clX3 ⟨Nat.le_of_ble_eq_true rfl, Nat.le_of_ble_eq_true rfl⟩ ⟨rfl, rfl⟩ (Nat.le_of_ble_eq_true rfl) fl_X3_15 (v := .int (i 75 1)) rfl dX3_put_31 ?_
    refine lv_iconst (pc := 34) (v := 1) C0.1 C0.2.1 dX3_put_34 (by decide) ?_
    have : Int32.toInt 1 = 1 := rfl
    refine lv_iadd (pc := 35) C0.1 C0.2.1 dX3_put_35 ?_
    refine lv_topi (fun x2 ex2 => ?_)
    have hx2 : Int32.toInt x2 = Int32.toInt (i 75 1) + Int32.toInt 1 := by rw [ex2]; exact fb_addI (by omega) (by omega)
    refine xputI (pc := 36) C0 (Nat.le_of_ble_eq_true rfl) hH hS 75 1 clX3 ⟨Nat.le_of_ble_eq_true rfl, Nat.le_of_ble_eq_true rfl⟩ ⟨rfl, rfl⟩ ⟨Nat.le_of_ble_eq_true rfl, rfl, rfl⟩ fl_X3_15 (x := x2) ⟨rfl, rfl⟩ dX3_put_36 (fun _ locs hH hS _ => ?_)
    have hH : Hd D tA b 0 78 zz (up2 i 75 1 x2) (va_up F 76 (upd (F 76) (Int32.toNatClampNeg (i 75 1)) (Int8.toInt32 (Int32.toInt8 x.toInt8.toInt32)))) G _ := hH
    exact xvret (pc := 39) C0 hr hH hS dX3_put_39 ⟨(On.f (On.i On.rf (by decide)) (by decide)), by show 0 ≤ Int32.toInt x2; omega, by show Int32.toInt x2 ≤ 4000; omega⟩
  · have c1 : ¬ _ := fun q => c1 (Int32.lt_iff_toInt_lt.mpr q)
    refine lv_aload_n (pc := 12) C0.1 C0.2.1 dX3_put_12 rfl (lv_at hl 0 rfl) ?_
    refine lv_iconst (pc := 13) (v := 1) C0.1 C0.2.1 dX3_put_13 (by decide) ?_
    refine xputI (pc := 14) C0 (Nat.le_of_ble_eq_true rfl) hH hS 75 2 clX3 ⟨Nat.le_of_ble_eq_true rfl, Nat.le_of_ble_eq_true rfl⟩ ⟨rfl, rfl⟩ ⟨Nat.le_of_ble_eq_true rfl, rfl, rfl⟩ fl_X3_19 (x := 1) ⟨rfl, rfl⟩ dX3_put_14 (fun _ locs hH hS _ => ?_)
    have hH : Hd D tA b 0 78 zz (up2 i 75 2 1) F G _ := hH
    exact xvret (pc := 17) C0 hr hH hS dX3_put_17 ⟨(On.i On.rf (by decide)), by show 0 ≤ Int32.toInt (i 75 1); omega, by show Int32.toInt (i 75 1) ≤ 4000; omega⟩
set_option maxHeartbeats 4000000 in
set_option maxRecDepth 100000 in
theorem g_X3_clear_75 (l : Launch) (D : va_G) (tA : Nat → ClassId) (b : Nat) (i F : Nat → Nat → Int32) (G : Nat → Nat → Int64)   : xMV l yX3_clear cX3_clear 1 none 0 0 D tA b 0 78 i F G [.ref (b + 75)] (fun u => On 75 77 i F G u ∧ 0 ≤ (u.1 75 1).toInt ∧ (u.1 75 1).toInt ≤ 4000) := by
  refine xstart RX3 rfl (by decide) (Nat.le_of_ble_eq_true rfl) ?_
  intro p e s m below meth c ls C0 hr hH hS hl
  have hl : lv_has ls 1 [(0, .ref (b + 75))] := hl
  refine lv_aload_n (pc := 0) C0.1 C0.2.1 dX3_clear_0 rfl (lv_at hl 0 rfl) ?_
  refine lv_iconst (pc := 1) (v := 0) C0.1 C0.2.1 dX3_clear_1 (by decide) ?_
  refine xputI (pc := 2) C0 (Nat.le_of_ble_eq_true rfl) hH hS 75 1 clX3 ⟨Nat.le_of_ble_eq_true rfl, Nat.le_of_ble_eq_true rfl⟩ ⟨rfl, rfl⟩ ⟨Nat.le_of_ble_eq_true rfl, rfl, rfl⟩ fl_X3_15 (x := 0) ⟨rfl, rfl⟩ dX3_clear_2 (fun _ locs hH hS _ => ?_)
  have hH : Hd D tA b 0 78 zz (up2 i 75 1 0) F G _ := hH
  refine lv_aload_n (pc := 5) C0.1 C0.2.1 dX3_clear_5 rfl (lv_at hl 0 rfl) ?_
  refine lv_iconst (pc := 6) (v := 0) C0.1 C0.2.1 dX3_clear_6 (by decide) ?_
  refine xputI (pc := 7) C0 (Nat.le_of_ble_eq_true rfl) hH hS 75 2 clX3 ⟨Nat.le_of_ble_eq_true rfl, Nat.le_of_ble_eq_true rfl⟩ ⟨rfl, rfl⟩ ⟨Nat.le_of_ble_eq_true rfl, rfl, rfl⟩ fl_X3_19 (x := 0) ⟨rfl, rfl⟩ dX3_clear_7 (fun _ locs hH hS _ => ?_)
  have hH : Hd D tA b 0 78 zz (up2 (up2 i 75 1 0) 75 2 0) F G _ := hH
  exact xvret (pc := 10) C0 hr hH hS dX3_clear_10 ⟨(On.i (On.i On.rf (by decide)) (by decide)), by show 0 ≤ Int32.toInt 0; decide, by show Int32.toInt 0 ≤ 4000; decide⟩
set_option maxHeartbeats 4000000 in
set_option maxRecDepth 100000 in
theorem g_X3_putBlanks_75 (l : Launch) (D : va_G) (tA : Nat → ClassId) (b : Nat) (i F : Nat → Nat → Int32) (G : Nat → Nat → Int64) (x : Int32) (hpg : 0 ≤ (i 75 1).toInt ∧ (i 75 1).toInt ≤ 4000) : xMV l yX3_putBlanks cX3_putBlanks 3 none 1 21 D tA b 0 78 i F G [.ref (b + 75), .int x] (fun u => On 75 77 i F G u ∧ 0 ≤ (u.1 75 1).toInt ∧ (u.1 75 1).toInt ≤ 4000) := by
  refine xstart RX3 rfl (by decide) (Nat.le_of_ble_eq_true rfl) ?_
  intro p e s m below meth c ls C0 hr hH hS hl
  have hl : lv_has ls 3 [(0, .ref (b + 75)), (1, .int x)] := hl
  have rg_x := fb_rng x
  have LOOP : ∀ (d : Nat) (j : Int32) (iv Fv : Nat → Nat → Int32) (Gv : Nat → Nat → Int64) (H : Heap) (locs : List Loc) (ls : Array Slot), (0 ≤ j.toInt) → (x.toInt - j.toInt ≤ d) → (On 75 77 i F G (iv, Fv, Gv)) → (0 ≤ (iv 75 1).toInt ∧ (iv 75 1).toInt ≤ 4000) → Hd D tA b 0 78 zz iv Fv Gv H → va_S (xA b 0 78) s.heap H locs → lv_has ls 3 [(2, .int j), (1, .int x), (0, .ref (b + 75))] → W p l e (xR 1 21) s m ([.ref (b + 75), .int x] : List Value).toArray below meth c H locs 0 0 (MQ below (va_Qv (fun u => On 75 77 i F G u ∧ 0 ≤ (u.1 75 1).toInt ∧ (u.1 75 1).toInt ≤ 4000) (xB D tA b 0 78 zz) (xA b 0 78)) ([.ref (b + 75), .int x] : List Value).toArray s 0 0 (xA b 0 78)) (F0 m 2 ls []) := by
    intro d
    induction d with
    | zero =>
      intro j iv Fv Gv H locs ls h1 h2 h3 h4 hH hS hl
      have rg_j := fb_rng j
      refine lv_iload_n (pc := 2) C0.1 C0.2.1 dX3_putBlanks_2 rfl (lv_at hl 0 rfl) ?_
      refine lv_iload_n (pc := 3) C0.1 C0.2.1 dX3_putBlanks_3 rfl (lv_at hl 1 rfl) ?_
      refine lv_icmp_ge (pc := 4) (tgt := 26) C0.1 C0.2.1 dX3_putBlanks_4 (by decide) (fun _ => ?_) (fun c => absurd (Int32.le_iff_toInt_le.mpr (by omega)) c)
      exact xvret (pc := 26) C0 hr hH hS dX3_putBlanks_26 ⟨h3, h4.1, h4.2⟩
    | succ d ih =>
      intro j iv Fv Gv H locs ls h1 h2 h3 h4 hH hS hl
      have rg_j := fb_rng j
      refine lv_iload_n (pc := 2) C0.1 C0.2.1 dX3_putBlanks_2 rfl (lv_at hl 0 rfl) ?_
      refine lv_iload_n (pc := 3) C0.1 C0.2.1 dX3_putBlanks_3 rfl (lv_at hl 1 rfl) ?_
      refine lv_icmp_ge (pc := 4) (tgt := 26) C0.1 C0.2.1 dX3_putBlanks_4 (by decide) (fun c101 => ?_) (fun c101 => ?_)
      · have c101 := Int32.le_iff_toInt_le.mp c101
        exact xvret (pc := 26) C0 hr hH hS dX3_putBlanks_26 ⟨h3, h4.1, h4.2⟩
      · have c101 : ¬ _ := fun q => c101 (Int32.le_iff_toInt_le.mpr q)
        refine lv_aload_n (pc := 7) C0.1 C0.2.1 dX3_putBlanks_7 rfl (lv_at hl 2 rfl) ?_
        refine xget (pc := 8) C0 hH 75 2 clX3 ⟨Nat.le_of_ble_eq_true rfl, Nat.le_of_ble_eq_true rfl⟩ ⟨rfl, rfl⟩ (Nat.le_of_ble_eq_true rfl) fl_X3_19 (v := .int (iv 75 2)) rfl dX3_putBlanks_8 ?_
        refine lv_if_ne (pc := 11) (tgt := 26) C0.1 C0.2.1 dX3_putBlanks_11 (by decide) (fun c102 => ?_) (fun c102 => ?_)
        · have : Int32.toInt 0 = 0 := rfl
          have c102 : ¬ _ := fun q => c102 (Int32.toInt_inj.mp q)
          exact xvret (pc := 26) C0 hr hH hS dX3_putBlanks_26 ⟨h3, h4.1, h4.2⟩
        · have : Int32.toInt 0 = 0 := rfl
          have c102 := congrArg Int32.toInt c102
          refine lv_aload_n (pc := 14) C0.1 C0.2.1 dX3_putBlanks_14 rfl (lv_at hl 2 rfl) ?_
          refine lv_bipush (pc := 15) (v := 32) C0.1 C0.2.1 dX3_putBlanks_15 (by decide) ?_
          refine xcVV (pc := 17) 75 [.int 32] (g_X3_put_75 l D tA b iv Fv Gv 32 (by omega)) C0 hH hS clX3 rfl ⟨⟨Nat.le_of_ble_eq_true rfl, Nat.le_of_ble_eq_true rfl⟩, rfl, rfl⟩ cw_X3_23 rfl ⟨Nat.le_of_ble_eq_true rfl, Nat.le_of_ble_eq_true rfl⟩ hl.1 rfl (Nat.le_of_ble_eq_true rfl) dX3_putBlanks_17 ⟨Nat.le_of_ble_eq_true rfl, Nat.le_of_ble_eq_true rfl⟩ (fun ir103 Fr103 Gr103 _ locs hp hH hS => ?_)
          obtain ⟨honr103, hs1r103, hs2r103⟩ := hp
          dsimp only at hs1r103 hs2r103
          obtain ⟨x104, ex104⟩ : ∃ y_ : Int32, y_ = j + 1 := ⟨_, rfl⟩
          have : Int32.toInt 1 = 1 := rfl
          have hx104 : Int32.toInt x104 = Int32.toInt j + Int32.toInt 1 := by rw [ex104]; exact fb_addI (by omega) (by omega)
          refine lv_iinc (pc := 20) (v := x104) (lv' := [(2, .int x104), (1, .int x), (0, .ref (b + 75))]) C0.1 C0.2.1 dX3_putBlanks_20 hl (k := 0) rfl (by rw [ex104]; rfl) (by decide) rfl (fun ls hl => ?_)
          refine lv_goto (pc := 23) (tgt := 2) C0.1 C0.2.1 dX3_putBlanks_23 (by decide) ?_
          exact ih x104 _ _ _ _ _ _ (by omega) (by omega) (On.tr h3 honr103 (Nat.le_refl _) (Nat.le_refl _)) ⟨by omega, by omega⟩ hH hS (lv_sub hl [0, 1, 2] rfl)
  refine lv_iconst (pc := 0) (v := 0) C0.1 C0.2.1 dX3_putBlanks_0 (by decide) ?_
  refine lv_istore_n (pc := 1) (lv' := [(2, .int 0), (0, .ref (b + 75)), (1, .int x)]) C0.1 C0.2.1 dX3_putBlanks_1 rfl hl (by decide) rfl (fun ls hl => ?_)
  exact LOOP (x.toInt).toNat 0 i F G _ _ _ (by have : Int32.toInt 0 = 0 := rfl; omega) (by have : Int32.toInt 0 = 0 := rfl; omega) On.rf hpg hH hS (lv_sub hl [0, 2, 1] rfl)
