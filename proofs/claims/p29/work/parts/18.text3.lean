set_option maxRecDepth 20000 in
theorem cw_X6_19 : CwN RX6 "IndentReader" 19 yX9_bytesIn cX9_bytesIn 3 (some .int) 1 := ⟨nm_ 587 (by decide +kernel) rfl, wm 1 (by decide +kernel) rfl, wm 430 rfl rfl, by decide +kernel⟩
set_option maxRecDepth 20000 in
theorem st_X9_bytesIn : Cond.static yX9_bytesIn ∈ WALL := wm 429 (by decide +kernel) rfl
set_option maxRecDepth 20000 in
theorem cw_X6_23 : CwN RX6 "IndentReader" 23 yX9_byteOf cX9_byteOf 3 (some .int) 2 := ⟨nm_ 588 (by decide +kernel) rfl, wm 1 (by decide +kernel) rfl, wm 433 rfl rfl, by decide +kernel⟩
set_option maxRecDepth 20000 in
theorem st_X9_byteOf : Cond.static yX9_byteOf ∈ WALL := wm 432 (by decide +kernel) rfl
theorem dX6_keepFirst_0 : decode cX6_keepFirst 0 = .ok (.iload_n 1, 1) := by decide +kernel
theorem dX6_keepFirst_1 : decode cX6_keepFirst 1 = .ok (.ifCond .lt 11, 3) := by decide +kernel
theorem dX6_keepFirst_12 : decode cX6_keepFirst 12 = .ok (.bipush (-2), 2) := by decide +kernel
theorem dX6_keepFirst_14 : decode cX6_keepFirst 14 = .ok (.ireturn, 1) := by decide +kernel
theorem dX6_keepFirst_4 : decode cX6_keepFirst 4 = .ok (.iload_n 1, 1) := by decide +kernel
theorem dX6_keepFirst_5 : decode cX6_keepFirst 5 = .ok (.aload_n 0, 1) := by decide +kernel
theorem dX6_keepFirst_6 : decode cX6_keepFirst 6 = .ok (.getfield 15, 3) := by decide +kernel
theorem dX6_keepFirst_9 : decode cX6_keepFirst 9 = .ok (.if_icmp .le 6, 3) := by decide +kernel
theorem dX6_keepFirst_15 : decode cX6_keepFirst 15 = .ok (.aload_n 0, 1) := by decide +kernel
theorem dX6_keepFirst_16 : decode cX6_keepFirst 16 = .ok (.getfield 15, 3) := by decide +kernel
theorem dX6_keepFirst_19 : decode cX6_keepFirst 19 = .ok (.iload_n 1, 1) := by decide +kernel
theorem dX6_keepFirst_20 : decode cX6_keepFirst 20 = .ok (.isub, 1) := by decide +kernel
theorem dX6_keepFirst_21 : decode cX6_keepFirst 21 = .ok (.istore_n 2, 1) := by decide +kernel
theorem dX6_keepFirst_22 : decode cX6_keepFirst 22 = .ok (.aload_n 0, 1) := by decide +kernel
theorem dX6_keepFirst_23 : decode cX6_keepFirst 23 = .ok (.iload_n 1, 1) := by decide +kernel
theorem dX6_keepFirst_24 : decode cX6_keepFirst 24 = .ok (.putfield 15, 3) := by decide +kernel
theorem dX6_keepFirst_27 : decode cX6_keepFirst 27 = .ok (.iload_n 2, 1) := by decide +kernel
theorem dX6_keepFirst_28 : decode cX6_keepFirst 28 = .ok (.ireturn, 1) := by decide +kernel
theorem dX6_append_0 : decode cX6_append 0 = .ok (.lload_n 1, 1) := by decide +kernel
theorem dX6_append_1 : decode cX6_append 1 = .ok (.invokestatic 19, 3) := by decide +kernel
theorem dX6_append_4 : decode cX6_append 4 = .ok (.istore_n 3, 1) := by decide +kernel
theorem dX6_append_5 : decode cX6_append 5 = .ok (.aload_n 0, 1) := by decide +kernel
theorem dX6_append_6 : decode cX6_append 6 = .ok (.getfield 15, 3) := by decide +kernel
theorem dX6_append_9 : decode cX6_append 9 = .ok (.iload_n 3, 1) := by decide +kernel
theorem dX6_append_10 : decode cX6_append 10 = .ok (.iadd, 1) := by decide +kernel
theorem dX6_append_11 : decode cX6_append 11 = .ok (.sipush 600, 3) := by decide +kernel
theorem dX6_append_14 : decode cX6_append 14 = .ok (.if_icmp .le 6, 3) := by decide +kernel
theorem dX6_append_20 : decode cX6_append 20 = .ok (.iconst 0, 1) := by decide +kernel
theorem dX6_append_21 : decode cX6_append 21 = .ok (.istore 4, 2) := by decide +kernel
theorem dX6_append_17 : decode cX6_append 17 = .ok (.bipush (-4), 2) := by decide +kernel
theorem dX6_append_19 : decode cX6_append 19 = .ok (.ireturn, 1) := by decide +kernel
theorem dX6_append_23 : decode cX6_append 23 = .ok (.iload 4, 2) := by decide +kernel
theorem dX6_append_25 : decode cX6_append 25 = .ok (.iload_n 3, 1) := by decide +kernel
theorem dX6_append_26 : decode cX6_append 26 = .ok (.if_icmp .ge 28, 3) := by decide +kernel
theorem dX6_append_54 : decode cX6_append 54 = .ok (.aload_n 0, 1) := by decide +kernel
theorem dX6_append_55 : decode cX6_append 55 = .ok (.dup, 1) := by decide +kernel
theorem dX6_append_56 : decode cX6_append 56 = .ok (.getfield 15, 3) := by decide +kernel
theorem dX6_append_59 : decode cX6_append 59 = .ok (.iload_n 3, 1) := by decide +kernel
theorem dX6_append_60 : decode cX6_append 60 = .ok (.iadd, 1) := by decide +kernel
theorem dX6_append_61 : decode cX6_append 61 = .ok (.putfield 15, 3) := by decide +kernel
theorem dX6_append_64 : decode cX6_append 64 = .ok (.aload_n 0, 1) := by decide +kernel
theorem dX6_append_65 : decode cX6_append 65 = .ok (.getfield 15, 3) := by decide +kernel
theorem dX6_append_68 : decode cX6_append 68 = .ok (.ireturn, 1) := by decide +kernel
theorem dX6_append_29 : decode cX6_append 29 = .ok (.aload_n 0, 1) := by decide +kernel
theorem dX6_append_30 : decode cX6_append 30 = .ok (.getfield 9, 3) := by decide +kernel
theorem dX6_append_33 : decode cX6_append 33 = .ok (.aload_n 0, 1) := by decide +kernel
theorem dX6_append_34 : decode cX6_append 34 = .ok (.getfield 15, 3) := by decide +kernel
theorem dX6_append_37 : decode cX6_append 37 = .ok (.iload 4, 2) := by decide +kernel
theorem dX6_append_39 : decode cX6_append 39 = .ok (.iadd, 1) := by decide +kernel
theorem dX6_append_40 : decode cX6_append 40 = .ok (.lload_n 1, 1) := by decide +kernel
theorem dX6_append_41 : decode cX6_append 41 = .ok (.iload 4, 2) := by decide +kernel
theorem dX6_append_43 : decode cX6_append 43 = .ok (.invokestatic 23, 3) := by decide +kernel
theorem dX6_append_46 : decode cX6_append 46 = .ok (.i2b, 1) := by decide +kernel
theorem dX6_append_47 : decode cX6_append 47 = .ok (.bastore, 1) := by decide +kernel
theorem dX6_append_48 : decode cX6_append 48 = .ok (.iinc 4 1, 3) := by decide +kernel
theorem dX6_append_51 : decode cX6_append 51 = .ok (.goto (-28), 3) := by decide +kernel
set_option maxHeartbeats 4000000 in
set_option maxRecDepth 100000 in
theorem g_X6_keepFirst_4 (l : Launch) (D : va_G) (tA : Nat → ClassId) (b : Nat) (i F : Nat → Nat → Int32) (G : Nat → Nat → Int64) (x : Int32) (hsz : 0 ≤ (i 4 1).toInt ∧ (i 4 1).toInt ≤ 600) (hbf : ∀ j, fits .byte (.int (F 5 j)) = true) : xMI l yX6_keepFirst cX6_keepFirst 3 (some .int) 0 0 D tA b 0 78 i F G [.ref (b + 4), .int x] (fun r u => On 4 6 i F G u ∧ 0 ≤ (u.1 4 1).toInt ∧ (u.1 4 1).toInt ≤ 600 ∧ ∀ j, fits .byte (.int (u.2.1 5 j)) = true) := by
  refine xstart RX6 rfl (by decide) (Nat.le_of_ble_eq_true rfl) ?_
  intro p e s m below meth c ls C0 hr hH hS hl
  have hl : lv_has ls 3 [(0, .ref (b + 4)), (1, .int x)] := hl
  have rg_x := fb_rng x
  refine lv_iload_n (pc := 0) C0.1 C0.2.1 dX6_keepFirst_0 rfl (lv_at hl 1 rfl) ?_
  refine lv_if_lt (pc := 1) (tgt := 12) C0.1 C0.2.1 dX6_keepFirst_1 (by decide) (fun c1 => ?_) (fun c1 => ?_)
  · have : Int32.toInt 0 = 0 := rfl
    have c1 := Int32.lt_iff_toInt_lt.mp c1
    refine lv_bipush (pc := 12) (v := (-2)) C0.1 C0.2.1 dX6_keepFirst_12 (by decide) ?_
    exact xiret (pc := 14) C0 hr hH hS dX6_keepFirst_14 ⟨On.rf, by show 0 ≤ Int32.toInt (i 4 1); omega, by show Int32.toInt (i 4 1) ≤ 600; omega, hbf⟩
  · have : Int32.toInt 0 = 0 := rfl
    have c1 : ¬ _ := fun q => c1 (Int32.lt_iff_toInt_lt.mpr q)
    refine lv_iload_n (pc := 4) C0.1 C0.2.1 dX6_keepFirst_4 rfl (lv_at hl 1 rfl) ?_
    refine lv_aload_n (pc := 5) C0.1 C0.2.1 dX6_keepFirst_5 rfl (lv_at hl 0 rfl) ?_
    refine xget (pc := 6) C0 hH 4 1 clX6 ⟨Nat.le_of_ble_eq_true rfl, Nat.le_of_ble_eq_true rfl⟩ ⟨rfl, rfl⟩ (Nat.le_of_ble_eq_true rfl) fl_X6_15 (v := .int (i 4 1)) rfl dX6_keepFirst_6 ?_
    refine lv_icmp_le (pc := 9) (tgt := 15) C0.1 C0.2.1 dX6_keepFirst_9 (by decide) (fun c2 => ?_) (fun c2 => ?_)
    · have c2 := Int32.le_iff_toInt_le.mp c2
      refine lv_aload_n (pc := 15) C0.1 C0.2.1 dX6_keepFirst_15 rfl (lv_at hl 0 rfl) ?_
      refine xget (pc := 16) C0 hH 4 1 clX6 ⟨Nat.le_of_ble_eq_true rfl, Nat.le_of_ble_eq_true rfl⟩ ⟨rfl, rfl⟩ (Nat.le_of_ble_eq_true rfl) fl_X6_15 (v := .int (i 4 1)) rfl dX6_keepFirst_16 ?_
      refine lv_iload_n (pc := 19) C0.1 C0.2.1 dX6_keepFirst_19 rfl (lv_at hl 1 rfl) ?_
      refine lv_isub (pc := 20) C0.1 C0.2.1 dX6_keepFirst_20 ?_
      refine lv_topi (fun x3 ex3 => ?_)
      refine lv_istore_n (pc := 21) (lv' := [(2, .int x3), (0, .ref (b + 4)), (1, .int x)]) C0.1 C0.2.1 dX6_keepFirst_21 rfl hl (by decide) rfl (fun ls hl => ?_)
      refine lv_aload_n (pc := 22) C0.1 C0.2.1 dX6_keepFirst_22 rfl (lv_at hl 1 rfl) ?_
      refine lv_iload_n (pc := 23) C0.1 C0.2.1 dX6_keepFirst_23 rfl (lv_at hl 2 rfl) ?_
      refine xputI (pc := 24) C0 (Nat.le_of_ble_eq_true rfl) hH hS 4 1 clX6 ⟨Nat.le_of_ble_eq_true rfl, Nat.le_of_ble_eq_true rfl⟩ ⟨rfl, rfl⟩ ⟨Nat.le_of_ble_eq_true rfl, rfl, rfl⟩ fl_X6_15 (x := x) ⟨rfl, rfl⟩ dX6_keepFirst_24 (fun _ locs hH hS _ => ?_)
      have hH : Hd D tA b 0 78 zz (up2 i 4 1 x) F G _ := hH
      refine lv_iload_n (pc := 27) C0.1 C0.2.1 dX6_keepFirst_27 rfl (lv_at hl 0 rfl) ?_
      exact xiret (pc := 28) C0 hr hH hS dX6_keepFirst_28 ⟨(On.i On.rf (by decide)), by show 0 ≤ Int32.toInt x; omega, by show Int32.toInt x ≤ 600; omega, hbf⟩
    · have c2 : ¬ _ := fun q => c2 (Int32.le_iff_toInt_le.mpr q)
      refine lv_bipush (pc := 12) (v := (-2)) C0.1 C0.2.1 dX6_keepFirst_12 (by decide) ?_
      exact xiret (pc := 14) C0 hr hH hS dX6_keepFirst_14 ⟨On.rf, by show 0 ≤ Int32.toInt (i 4 1); omega, by show Int32.toInt (i 4 1) ≤ 600; omega, hbf⟩
set_option maxHeartbeats 4000000 in
set_option maxRecDepth 100000 in
theorem g_X6_append_4 (l : Launch) (D : va_G) (tA : Nat → ClassId) (b : Nat) (i F : Nat → Nat → Int32) (G : Nat → Nat → Int64) (w : Int64) (hsz : 0 ≤ (i 4 1).toInt ∧ (i 4 1).toInt ≤ 600) (hbf : ∀ j, fits .byte (.int (F 5 j)) = true) : xMI l yX6_append cX6_append 5 (some .int) 2 44 D tA b 0 78 i F G [.ref (b + 4), .long w] (fun r u => On 4 6 i F G u ∧ 0 ≤ (u.1 4 1).toInt ∧ (u.1 4 1).toInt ≤ 600 ∧ ∀ j, fits .byte (.int (u.2.1 5 j)) = true) := by
  refine xstart RX6 rfl (by decide) (Nat.le_of_ble_eq_true rfl) ?_
  intro p e s m below meth c ls C0 hr hH hS hl
  have hl : lv_has ls 5 [(0, .ref (b + 4)), (1, .long w)] := hl
  have hz8 := zl_le w
  have hzI : Int32.toInt (nI (zl w)) = (zl w : Int) := nI_toInt (zl_lb _)
  have LOOP : ∀ (d : Nat) (k : Nat) (Fv : Nat → Nat → Int32) (H : Heap) (locs : List Loc) (ls : Array Slot), (k + d = zl w) → (zl w ≤ 8) → ((i 4 1).toInt + zl w ≤ 600) → (On 4 6 i F G (i, Fv, G)) → (∀ j, fits .byte (.int (Fv 5 j)) = true) → Hd D tA b 0 78 zz i Fv G H → va_S (xA b 0 78) s.heap H locs → lv_has ls 5 [(4, .int (nI k)), (3, .int (nI (zl w))), (1, .long w), (0, .ref (b + 4))] → W p l e (xR 2 44) s m ([.ref (b + 4), .long w] : List Value).toArray below meth c H locs 0 0 (MQ below (va_Qi (fun r u => On 4 6 i F G u ∧ 0 ≤ (u.1 4 1).toInt ∧ (u.1 4 1).toInt ≤ 600 ∧ ∀ j, fits .byte (.int (u.2.1 5 j)) = true) (xB D tA b 0 78 zz) (xA b 0 78)) ([.ref (b + 4), .long w] : List Value).toArray s 0 0 (xA b 0 78)) (F0 m 23 ls []) := by
    intro d
    induction d with
    | zero =>
      intro k Fv H locs ls h1 h2 h3 h4 h5 hH hS hl
      have hkI : Int32.toInt (nI k) = (k : Int) := nI_toInt (by omega)
      refine lv_iload (pc := 23) C0.1 C0.2.1 dX6_append_23 (lv_at hl 0 rfl) ?_
      refine lv_iload_n (pc := 25) C0.1 C0.2.1 dX6_append_25 rfl (lv_at hl 1 rfl) ?_
      refine lv_icmp_ge (pc := 26) (tgt := 54) C0.1 C0.2.1 dX6_append_26 (by decide) (fun _ => ?_) (fun c => absurd (nI_le (by omega) (by omega)) c)
      refine lv_aload_n (pc := 54) C0.1 C0.2.1 dX6_append_54 rfl (lv_at hl 3 rfl) ?_
      refine lv_dup (pc := 55) C0.1 C0.2.1 dX6_append_55 rfl ?_
      refine xget (pc := 56) C0 hH 4 1 clX6 ⟨Nat.le_of_ble_eq_true rfl, Nat.le_of_ble_eq_true rfl⟩ ⟨rfl, rfl⟩ (Nat.le_of_ble_eq_true rfl) fl_X6_15 (v := .int (i 4 1)) rfl dX6_append_56 ?_
      refine lv_iload_n (pc := 59) C0.1 C0.2.1 dX6_append_59 rfl (lv_at hl 1 rfl) ?_
      refine lv_iadd (pc := 60) C0.1 C0.2.1 dX6_append_60 ?_
      refine lv_topi (fun x101 ex101 => ?_)
      have hx101 : Int32.toInt x101 = Int32.toInt (i 4 1) + Int32.toInt (nI (zl w)) := by rw [ex101]; exact fb_addI (by omega) (by omega)
      refine xputI (pc := 61) C0 (Nat.le_of_ble_eq_true rfl) hH hS 4 1 clX6 ⟨Nat.le_of_ble_eq_true rfl, Nat.le_of_ble_eq_true rfl⟩ ⟨rfl, rfl⟩ ⟨Nat.le_of_ble_eq_true rfl, rfl, rfl⟩ fl_X6_15 (x := x101) ⟨rfl, rfl⟩ dX6_append_61 (fun _ locs hH hS _ => ?_)
      have hH : Hd D tA b 0 78 zz (up2 i 4 1 x101) Fv G _ := hH
      refine lv_aload_n (pc := 64) C0.1 C0.2.1 dX6_append_64 rfl (lv_at hl 3 rfl) ?_
      refine xget (pc := 65) C0 hH 4 1 clX6 ⟨Nat.le_of_ble_eq_true rfl, Nat.le_of_ble_eq_true rfl⟩ ⟨rfl, rfl⟩ (Nat.le_of_ble_eq_true rfl) fl_X6_15 (v := .int x101) rfl dX6_append_65 ?_
      exact xiret (pc := 68) C0 hr hH hS dX6_append_68 ⟨(On.i h4 (by decide)), by show 0 ≤ Int32.toInt x101; omega, by show Int32.toInt x101 ≤ 600; omega, h5⟩
    | succ d ih =>
      intro k Fv H locs ls h1 h2 h3 h4 h5 hH hS hl
      have hkI : Int32.toInt (nI k) = (k : Int) := nI_toInt (by omega)
      refine lv_iload (pc := 23) C0.1 C0.2.1 dX6_append_23 (lv_at hl 0 rfl) ?_
      refine lv_iload_n (pc := 25) C0.1 C0.2.1 dX6_append_25 rfl (lv_at hl 1 rfl) ?_
      refine lv_icmp_ge (pc := 26) (tgt := 54) C0.1 C0.2.1 dX6_append_26 (by decide) (fun c => absurd c (nI_ge (by omega) (by omega))) (fun _ => ?_)
      refine lv_aload_n (pc := 29) C0.1 C0.2.1 dX6_append_29 rfl (lv_at hl 3 rfl) ?_
      refine xget (pc := 30) C0 hH 4 0 clX6 ⟨Nat.le_of_ble_eq_true rfl, Nat.le_of_ble_eq_true rfl⟩ ⟨rfl, rfl⟩ (Nat.le_of_ble_eq_true rfl) fl_X6_9 (v := .ref (b + 5)) rfl dX6_append_30 ?_
      refine lv_aload_n (pc := 33) C0.1 C0.2.1 dX6_append_33 rfl (lv_at hl 3 rfl) ?_
      refine xget (pc := 34) C0 hH 4 1 clX6 ⟨Nat.le_of_ble_eq_true rfl, Nat.le_of_ble_eq_true rfl⟩ ⟨rfl, rfl⟩ (Nat.le_of_ble_eq_true rfl) fl_X6_15 (v := .int (i 4 1)) rfl dX6_append_34 ?_
      refine lv_iload (pc := 37) C0.1 C0.2.1 dX6_append_37 (lv_at hl 0 rfl) ?_
      refine lv_iadd (pc := 39) C0.1 C0.2.1 dX6_append_39 ?_
      refine lv_topi (fun x101 ex101 => ?_)
      have hx101 : Int32.toInt x101 = Int32.toInt (i 4 1) + Int32.toInt (nI k) := by rw [ex101]; exact fb_addI (by omega) (by omega)
      refine lv_lload_n (pc := 40) C0.1 C0.2.1 dX6_append_40 rfl (lv_at hl 2 rfl) ?_
      refine lv_iload (pc := 41) C0.1 C0.2.1 dX6_append_41 (lv_at hl 0 rfl) ?_
      refine xcNI (pc := 43) [.long w, .int (nI k)] (c_X9_byteOf l D tA b 0 78 i Fv G w k (by omega)) C0 hH hS cw_X6_23 st_X9_byteOf rfl ⟨Nat.le_of_ble_eq_true rfl, Nat.le_of_ble_eq_true rfl⟩ hl.1 rfl (Nat.le_of_ble_eq_true rfl) dX6_append_43 ⟨Nat.le_of_ble_eq_true rfl, Nat.le_of_ble_eq_true rfl⟩ (fun r102 ir102 Fr102 Gr102 _ locs hp hH hS => ?_)
      obtain ⟨hu, rfl⟩ := hp
      cases hu
      refine lv_i2b (pc := 46) (v := (nI (bt w k)).toInt8.toInt32) C0.1 C0.2.1 dX6_append_46 rfl ?_
      refine xbast (pc := 47) (N := 600) C0 (Nat.le_of_ble_eq_true rfl) hH hS 5 ⟨Nat.le_of_ble_eq_true rfl, Nat.le_of_ble_eq_true rfl⟩ ⟨rfl, rfl⟩ (vI (by omega) (by omega)) dX6_append_47 (fun _ locs hH hS => ?_)
      have hH : Hd D tA b 0 78 zz i (va_up Fv 5 (upd (Fv 5) (Int32.toNatClampNeg x101) (Int8.toInt32 (Int32.toInt8 ((nI (bt w k)).toInt8.toInt32))))) G _ := hH
      refine lv_iinc (pc := 48) (v := (nI (k + 1))) (lv' := [(4, .int (nI (k + 1))), (3, .int (nI (zl w))), (1, .long w), (0, .ref (b + 4))]) C0.1 C0.2.1 dX6_append_48 hl (k := 0) rfl (nI_1 k) (by decide) rfl (fun ls hl => ?_)
      refine lv_goto (pc := 51) (tgt := 23) C0.1 C0.2.1 dX6_append_51 (by decide) ?_
      exact ih (k + 1) _ _ _ _ (by omega) h2 h3 (On.f h4 (by decide)) (bf_up h5) hH hS (lv_sub hl [0, 1, 2, 3] rfl)
  refine lv_lload_n (pc := 0) C0.1 C0.2.1 dX6_append_0 rfl (lv_at hl 1 rfl) ?_
  refine xcNI (pc := 1) [.long w] (c_X9_bytesIn l D tA b 0 78 i F G w) C0 hH hS cw_X6_19 st_X9_bytesIn rfl ⟨Nat.le_of_ble_eq_true rfl, Nat.le_of_ble_eq_true rfl⟩ hl.1 rfl (Nat.le_of_ble_eq_true rfl) dX6_append_1 ⟨Nat.le_of_ble_eq_true rfl, Nat.le_of_ble_eq_true rfl⟩ (fun r1 ir1 Fr1 Gr1 _ locs hp hH hS => ?_)
  obtain ⟨hu, rfl⟩ := hp
  cases hu
  have hz8 := zl_le w
  have hzI : Int32.toInt (nI (zl w)) = (zl w : Int) := nI_toInt (zl_lb _)
  refine lv_istore_n (pc := 4) (lv' := [(3, .int (nI (zl w))), (0, .ref (b + 4)), (1, .long w)]) C0.1 C0.2.1 dX6_append_4 rfl hl (by decide) rfl (fun ls hl => ?_)
  refine lv_aload_n (pc := 5) C0.1 C0.2.1 dX6_append_5 rfl (lv_at hl 1 rfl) ?_
  refine xget (pc := 6) C0 hH 4 1 clX6 ⟨Nat.le_of_ble_eq_true rfl, Nat.le_of_ble_eq_true rfl⟩ ⟨rfl, rfl⟩ (Nat.le_of_ble_eq_true rfl) fl_X6_15 (v := .int (i 4 1)) rfl dX6_append_6 ?_
  refine lv_iload_n (pc := 9) C0.1 C0.2.1 dX6_append_9 rfl (lv_at hl 0 rfl) ?_
  refine lv_iadd (pc := 10) C0.1 C0.2.1 dX6_append_10 ?_
  refine lv_topi (fun x2 ex2 => ?_)
  have hx2 : Int32.toInt x2 = Int32.toInt (i 4 1) + Int32.toInt (nI (zl w)) := by rw [ex2]; exact fb_addI (by omega) (by omega)
  refine lv_sipush (pc := 11) (v := 600) C0.1 C0.2.1 dX6_append_11 (by decide) ?_
  refine lv_icmp_le (pc := 14) (tgt := 20) C0.1 C0.2.1 dX6_append_14 (by decide) (fun c3 => ?_) (fun c3 => ?_)
  · have : Int32.toInt 600 = 600 := rfl
    have c3 := Int32.le_iff_toInt_le.mp c3
    refine lv_iconst (pc := 20) (v := 0) C0.1 C0.2.1 dX6_append_20 (by decide) ?_
    refine lv_istore (pc := 21) (lv' := [(4, .int 0), (3, .int (nI (zl w))), (0, .ref (b + 4)), (1, .long w)]) C0.1 C0.2.1 dX6_append_21 hl (by decide) rfl (fun ls hl => ?_)
    exact LOOP (zl w) 0 F _ _ _ (by omega) hz8 (by omega) On.rf hbf hH hS (lv_sub hl [0, 1, 3, 2] rfl)
  · have : Int32.toInt 600 = 600 := rfl
    have c3 : ¬ _ := fun q => c3 (Int32.le_iff_toInt_le.mpr q)
    refine lv_bipush (pc := 17) (v := (-4)) C0.1 C0.2.1 dX6_append_17 (by decide) ?_
    exact xiret (pc := 19) C0 hr hH hS dX6_append_19 ⟨On.rf, by show 0 ≤ Int32.toInt (i 4 1); omega, by show Int32.toInt (i 4 1) ≤ 600; omega, hbf⟩
