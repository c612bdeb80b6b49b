theorem dX1_enter_0 : decode cX1_enter 0 = .ok (.aload_n 0, 1) := by decide +kernel
theorem dX1_enter_1 : decode cX1_enter 1 = .ok (.getfield 19, 3) := by decide +kernel
theorem dX1_enter_4 : decode cX1_enter 4 = .ok (.aload_n 0, 1) := by decide +kernel
theorem dX1_enter_5 : decode cX1_enter 5 = .ok (.getfield 9, 3) := by decide +kernel
theorem dX1_enter_8 : decode cX1_enter 8 = .ok (.arraylength, 1) := by decide +kernel
theorem dX1_enter_9 : decode cX1_enter 9 = .ok (.if_icmp .lt 4, 3) := by decide +kernel
theorem dX1_enter_13 : decode cX1_enter 13 = .ok (.aload_n 0, 1) := by decide +kernel
theorem dX1_enter_14 : decode cX1_enter 14 = .ok (.getfield 9, 3) := by decide +kernel
theorem dX1_enter_17 : decode cX1_enter 17 = .ok (.aload_n 0, 1) := by decide +kernel
theorem dX1_enter_18 : decode cX1_enter 18 = .ok (.getfield 19, 3) := by decide +kernel
theorem dX1_enter_21 : decode cX1_enter 21 = .ok (.lload_n 1, 1) := by decide +kernel
theorem dX1_enter_22 : decode cX1_enter 22 = .ok (.lastore, 1) := by decide +kernel
theorem dX1_enter_23 : decode cX1_enter 23 = .ok (.aload_n 0, 1) := by decide +kernel
theorem dX1_enter_24 : decode cX1_enter 24 = .ok (.getfield 15, 3) := by decide +kernel
theorem dX1_enter_27 : decode cX1_enter 27 = .ok (.aload_n 0, 1) := by decide +kernel
theorem dX1_enter_28 : decode cX1_enter 28 = .ok (.getfield 19, 3) := by decide +kernel
theorem dX1_enter_31 : decode cX1_enter 31 = .ok (.iload_n 3, 1) := by decide +kernel
theorem dX1_enter_32 : decode cX1_enter 32 = .ok (.iastore, 1) := by decide +kernel
theorem dX1_enter_33 : decode cX1_enter 33 = .ok (.aload_n 0, 1) := by decide +kernel
theorem dX1_enter_34 : decode cX1_enter 34 = .ok (.dup, 1) := by decide +kernel
theorem dX1_enter_35 : decode cX1_enter 35 = .ok (.getfield 19, 3) := by decide +kernel
theorem dX1_enter_38 : decode cX1_enter 38 = .ok (.iconst 1, 1) := by decide +kernel
theorem dX1_enter_39 : decode cX1_enter 39 = .ok (.iadd, 1) := by decide +kernel
theorem dX1_enter_40 : decode cX1_enter 40 = .ok (.putfield 19, 3) := by decide +kernel
theorem dX1_enter_43 : decode cX1_enter 43 = .ok (.return_, 1) := by decide +kernel
set_option maxHeartbeats 4000000 in
set_option maxRecDepth 100000 in
theorem g_X1_enter (l : Launch) (D : va_G) (tA : Nat → ClassId) (b : Nat) (i F : Nat → Nat → Int32) (G : Nat → Nat → Int64) (w : Int64) (y : Int32) (htd : 0 ≤ (i 1 2).toInt ∧ (i 1 2).toInt < 24) : xMV l yX1_enter cX1_enter 4 none 0 0 D tA b 0 78 i F G [.ref (b + 1), .long w, .int y] (fun u => ∃ t : Int32, t.toInt = (i 1 2).toInt + 1 ∧ u = (up2 i 1 2 t, va_up F 3 (upd (F 3) (i 1 2).toNatClampNeg y), va_up G 2 (vp_updL (G 2) (i 1 2).toNatClampNeg w))) := by
  refine xstart RX1 rfl (by decide) (Nat.le_of_ble_eq_true rfl) ?_
  intro p e s m below meth c ls C0 hr hH hS hl
  have hl : lv_has ls 4 [(0, .ref (b + 1)), (1, .long w), (3, .int y)] := hl
  have rg_y := fb_rng y
  have h24 : Int32.toInt (nI 24) = 24 := rfl
  refine lv_aload_n (pc := 0) C0.1 C0.2.1 dX1_enter_0 rfl (lv_at hl 0 rfl) ?_
  refine xget (pc := 1) C0 hH 1 2 clX1 ⟨Nat.le_of_ble_eq_true rfl, Nat.le_of_ble_eq_true rfl⟩ ⟨rfl, rfl⟩ (Nat.le_of_ble_eq_true rfl) fl_X1_19 (v := .int (i 1 2)) rfl dX1_enter_1 ?_
  refine lv_aload_n (pc := 4) C0.1 C0.2.1 dX1_enter_4 rfl (lv_at hl 0 rfl) ?_
  refine xget (pc := 5) C0 hH 1 0 clX1 ⟨Nat.le_of_ble_eq_true rfl, Nat.le_of_ble_eq_true rfl⟩ ⟨rfl, rfl⟩ (Nat.le_of_ble_eq_true rfl) fl_X1_9 (v := .ref (b + 2)) rfl dX1_enter_5 ?_
  refine xalen (pc := 8) (N := 24) (t := 53) C0 hH 2 ⟨Nat.le_of_ble_eq_true rfl, Nat.le_of_ble_eq_true rfl⟩ ⟨rfl, rfl⟩ (by decide) dX1_enter_8 ?_
  refine lv_icmp_lt (pc := 9) (tgt := 13) C0.1 C0.2.1 dX1_enter_9 (by decide) (fun _ => ?_) (fun c => absurd (Int32.lt_iff_toInt_lt.mpr (by omega)) c)
  refine lv_aload_n (pc := 13) C0.1 C0.2.1 dX1_enter_13 rfl (lv_at hl 0 rfl) ?_
  refine xget (pc := 14) C0 hH 1 0 clX1 ⟨Nat.le_of_ble_eq_true rfl, Nat.le_of_ble_eq_true rfl⟩ ⟨rfl, rfl⟩ (Nat.le_of_ble_eq_true rfl) fl_X1_9 (v := .ref (b + 2)) rfl dX1_enter_14 ?_
  refine lv_aload_n (pc := 17) C0.1 C0.2.1 dX1_enter_17 rfl (lv_at hl 0 rfl) ?_
  refine xget (pc := 18) C0 hH 1 2 clX1 ⟨Nat.le_of_ble_eq_true rfl, Nat.le_of_ble_eq_true rfl⟩ ⟨rfl, rfl⟩ (Nat.le_of_ble_eq_true rfl) fl_X1_19 (v := .int (i 1 2)) rfl dX1_enter_18 ?_
  refine lv_lload_n (pc := 21) C0.1 C0.2.1 dX1_enter_21 rfl (lv_at hl 1 rfl) ?_
  refine xlast (pc := 22) (N := 24) C0 (Nat.le_of_ble_eq_true rfl) hH hS 2 ⟨Nat.le_of_ble_eq_true rfl, Nat.le_of_ble_eq_true rfl⟩ ⟨rfl, rfl⟩ (vI (by omega) (by omega)) dX1_enter_22 (fun _ locs hH hS => ?_)
  have hH : Hd D tA b 0 78 zz i F (va_up G 2 (vp_updL (G 2) (Int32.toNatClampNeg (i 1 2)) w)) _ := hH
  refine lv_aload_n (pc := 23) C0.1 C0.2.1 dX1_enter_23 rfl (lv_at hl 0 rfl) ?_
  refine xget (pc := 24) C0 hH 1 1 clX1 ⟨Nat.le_of_ble_eq_true rfl, Nat.le_of_ble_eq_true rfl⟩ ⟨rfl, rfl⟩ (Nat.le_of_ble_eq_true rfl) fl_X1_15 (v := .ref (b + 3)) rfl dX1_enter_24 ?_
  refine lv_aload_n (pc := 27) C0.1 C0.2.1 dX1_enter_27 rfl (lv_at hl 0 rfl) ?_
  refine xget (pc := 28) C0 hH 1 2 clX1 ⟨Nat.le_of_ble_eq_true rfl, Nat.le_of_ble_eq_true rfl⟩ ⟨rfl, rfl⟩ (Nat.le_of_ble_eq_true rfl) fl_X1_19 (v := .int (i 1 2)) rfl dX1_enter_28 ?_
  refine lv_iload_n (pc := 31) C0.1 C0.2.1 dX1_enter_31 rfl (lv_at hl 2 rfl) ?_
  refine xiast (pc := 32) (N := 24) C0 (Nat.le_of_ble_eq_true rfl) hH hS 3 ⟨Nat.le_of_ble_eq_true rfl, Nat.le_of_ble_eq_true rfl⟩ ⟨rfl, rfl⟩ (vI (by omega) (by omega)) dX1_enter_32 (fun _ locs hH hS _ => ?_)
  have hH : Hd D tA b 0 78 zz i (va_up F 3 (upd (F 3) (Int32.toNatClampNeg (i 1 2)) y)) (va_up G 2 (vp_updL (G 2) (Int32.toNatClampNeg (i 1 2)) w)) _ := hH
  refine lv_aload_n (pc := 33) C0.1 C0.2.1 dX1_enter_33 rfl (lv_at hl 0 rfl) ?_
  refine lv_dup (pc := 34) C0.1 C0.2.1 dX1_enter_34 rfl ?_
  refine xget (pc := 35) C0 hH 1 2 clX1 ⟨Nat.le_of_ble_eq_true rfl, Nat.le_of_ble_eq_true rfl⟩ ⟨rfl, rfl⟩ (Nat.le_of_ble_eq_true rfl) fl_X1_19 (v := .int (i 1 2)) rfl dX1_enter_35 ?_
  refine lv_iconst (pc := 38) (v := 1) C0.1 C0.2.1 dX1_enter_38 (by decide) ?_
  have : Int32.toInt 1 = 1 := rfl
  refine lv_iadd (pc := 39) C0.1 C0.2.1 dX1_enter_39 ?_
  refine lv_topi (fun x1 ex1 => ?_)
  have hx1 : Int32.toInt x1 = Int32.toInt (i 1 2) + Int32.toInt 1 := by rw [ex1]; exact fb_addI (by omega) (by omega)
  refine xputI (pc := 40) C0 (Nat.le_of_ble_eq_true rfl) hH hS 1 2 clX1 ⟨Nat.le_of_ble_eq_true rfl, Nat.le_of_ble_eq_true rfl⟩ ⟨rfl, rfl⟩ ⟨Nat.le_of_ble_eq_true rfl, rfl, rfl⟩ fl_X1_19 (x := x1) ⟨rfl, rfl⟩ dX1_enter_40 (fun _ locs hH hS _ => ?_)
  have hH : Hd D tA b 0 78 zz (up2 i 1 2 x1) (va_up F 3 (upd (F 3) (Int32.toNatClampNeg (i 1 2)) y)) (va_up G 2 (vp_updL (G 2) (Int32.toNatClampNeg (i 1 2)) w)) _ := hH
  exact xvret (pc := 43) C0 hr hH hS dX1_enter_43 ⟨x1, by have : Int32.toInt 1 = 1 := rfl; omega, rfl⟩
