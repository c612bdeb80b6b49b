theorem dX6_copyFrom_0 : decode cX6_copyFrom 0 = .ok (.aload_n 1, 1) := by decide +kernel
theorem dX6_copyFrom_1 : decode cX6_copyFrom 1 = .ok (.getfield 9, 3) := by decide +kernel
theorem dX6_copyFrom_4 : decode cX6_copyFrom 4 = .ok (.iconst 0, 1) := by decide +kernel
theorem dX6_copyFrom_5 : decode cX6_copyFrom 5 = .ok (.aload_n 0, 1) := by decide +kernel
theorem dX6_copyFrom_6 : decode cX6_copyFrom 6 = .ok (.getfield 9, 3) := by decide +kernel
theorem dX6_copyFrom_9 : decode cX6_copyFrom 9 = .ok (.iconst 0, 1) := by decide +kernel
theorem dX6_copyFrom_10 : decode cX6_copyFrom 10 = .ok (.aload_n 1, 1) := by decide +kernel
theorem dX6_copyFrom_11 : decode cX6_copyFrom 11 = .ok (.getfield 15, 3) := by decide +kernel
theorem dX6_copyFrom_14 : decode cX6_copyFrom 14 = .ok (.invokestatic 27, 3) := by decide +kernel
theorem dX6_copyFrom_17 : decode cX6_copyFrom 17 = .ok (.aload_n 0, 1) := by decide +kernel
theorem dX6_copyFrom_18 : decode cX6_copyFrom 18 = .ok (.aload_n 1, 1) := by decide +kernel
theorem dX6_copyFrom_19 : decode cX6_copyFrom 19 = .ok (.getfield 15, 3) := by decide +kernel
theorem dX6_copyFrom_22 : decode cX6_copyFrom 22 = .ok (.putfield 15, 3) := by decide +kernel
theorem dX6_copyFrom_25 : decode cX6_copyFrom 25 = .ok (.return_, 1) := by decide +kernel
set_option maxHeartbeats 4000000 in
set_option maxRecDepth 100000 in
theorem g_X6_copyFrom (l : Launch) (D : va_G) (tA : Nat → ClassId) (b : Nat) (i F : Nat → Nat → Int32) (G : Nat → Nat → Int64)  (hsz : 0 ≤ (i 4 1).toInt ∧ (i 4 1).toInt ≤ 600) (hbf : ∀ j, fits .byte (.int (F 5 j)) = true) (hbf7 : ∀ j, fits .byte (.int (F 7 j)) = true) : xMV l yX6_copyFrom cX6_copyFrom 2 none 1 60 D tA b 0 78 i F G [.ref (b + 6), .ref (b + 4)] (fun u => On 6 8 i F G u ∧ 0 ≤ (u.1 6 1).toInt ∧ (u.1 6 1).toInt ≤ 600 ∧ ∀ j, fits .byte (.int (u.2.1 7 j)) = true) := by
  refine xstart RX6 rfl (by decide) (Nat.le_of_ble_eq_true rfl) ?_
  intro p e s m below meth c ls C0 hr hH hS hl
  have hl : lv_has ls 2 [(0, .ref (b + 6)), (1, .ref (b + 4))] := hl
  refine lv_aload_n (pc := 0) C0.1 C0.2.1 dX6_copyFrom_0 rfl (lv_at hl 1 rfl) ?_
  refine xget (pc := 1) C0 hH 4 0 clX6 ⟨Nat.le_of_ble_eq_true rfl, Nat.le_of_ble_eq_true rfl⟩ ⟨rfl, rfl⟩ (Nat.le_of_ble_eq_true rfl) fl_X6_9 (v := .ref (b + 5)) rfl dX6_copyFrom_1 ?_
  refine lv_iconst (pc := 4) (v := 0) C0.1 C0.2.1 dX6_copyFrom_4 (by decide) ?_
  refine lv_aload_n (pc := 5) C0.1 C0.2.1 dX6_copyFrom_5 rfl (lv_at hl 0 rfl) ?_
  refine xget (pc := 6) C0 hH 6 0 clX6 ⟨Nat.le_of_ble_eq_true rfl, Nat.le_of_ble_eq_true rfl⟩ ⟨rfl, rfl⟩ (Nat.le_of_ble_eq_true rfl) fl_X6_9 (v := .ref (b + 7)) rfl dX6_copyFrom_6 ?_
  refine lv_iconst (pc := 9) (v := 0) C0.1 C0.2.1 dX6_copyFrom_9 (by decide) ?_
  refine lv_aload_n (pc := 10) C0.1 C0.2.1 dX6_copyFrom_10 rfl (lv_at hl 1 rfl) ?_
  refine xget (pc := 11) C0 hH 4 1 clX6 ⟨Nat.le_of_ble_eq_true rfl, Nat.le_of_ble_eq_true rfl⟩ ⟨rfl, rfl⟩ (Nat.le_of_ble_eq_true rfl) fl_X6_15 (v := .int (i 4 1)) rfl dX6_copyFrom_11 ?_
  refine xcopyb (pc := 14) (N0 := 600) (N1 := 600) C0 (Nat.le_of_ble_eq_true rfl) hH hS 5 7 ⟨Nat.le_of_ble_eq_true rfl, Nat.le_of_ble_eq_true rfl⟩ ⟨Nat.le_of_ble_eq_true rfl, Nat.le_of_ble_eq_true rfl⟩ ⟨rfl, rfl⟩ ⟨rfl, rfl⟩ ac_X6_27 (cp_ok (by decide) (by decide) (by omega) (by have : Int32.toInt 0 = 0 := rfl; omega) (by have : Int32.toInt 0 = 0 := rfl; omega) hbf) (Nat.le_of_ble_eq_true rfl) (Nat.le_of_ble_eq_true rfl) hl.1 dX6_copyFrom_14 (fun _ locs hH hS => ?_)
  have hH : Hd D tA b 0 78 zz i (va_up F 7 (va_cpy (F 5) (F 7) (Int32.toNatClampNeg 0) (Int32.toNatClampNeg 0) (Int32.toNatClampNeg (i 4 1)))) G _ := hH
  refine lv_aload_n (pc := 17) C0.1 C0.2.1 dX6_copyFrom_17 rfl (lv_at hl 0 rfl) ?_
  refine lv_aload_n (pc := 18) C0.1 C0.2.1 dX6_copyFrom_18 rfl (lv_at hl 1 rfl) ?_
  refine xget (pc := 19) C0 hH 4 1 clX6 ⟨Nat.le_of_ble_eq_true rfl, Nat.le_of_ble_eq_true rfl⟩ ⟨rfl, rfl⟩ (Nat.le_of_ble_eq_true rfl) fl_X6_15 (v := .int (i 4 1)) rfl dX6_copyFrom_19 ?_
  refine lv_topi (fun x1 ex1 => ?_)
  refine xputI (pc := 22) C0 (Nat.le_of_ble_eq_true rfl) hH hS 6 1 clX6 ⟨Nat.le_of_ble_eq_true rfl, Nat.le_of_ble_eq_true rfl⟩ ⟨rfl, rfl⟩ ⟨Nat.le_of_ble_eq_true rfl, rfl, rfl⟩ fl_X6_15 (x := x1) ⟨rfl, rfl⟩ dX6_copyFrom_22 (fun _ locs hH hS _ => ?_)
  have hH : Hd D tA b 0 78 zz (up2 i 6 1 x1) (va_up F 7 (va_cpy (F 5) (F 7) (Int32.toNatClampNeg 0) (Int32.toNatClampNeg 0) (Int32.toNatClampNeg (i 4 1)))) G _ := hH
  exact xvret (pc := 25) C0 hr hH hS dX6_copyFrom_25 ⟨On.f (On.i On.rf (by decide)) (by decide), by show 0 ≤ Int32.toInt x1; have := congrArg Int32.toInt ex1; omega, by show Int32.toInt x1 ≤ 600; have := congrArg Int32.toInt ex1; omega, fun j => by show fits .byte (.int (va_up F 7 _ 7 j)) = true; rw [va_up_self]; exact bf_cpy hbf hbf7 j⟩
