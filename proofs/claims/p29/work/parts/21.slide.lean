set_option maxRecDepth 20000 in
theorem cw_X6_48 : CwV RX6 48 yX6_refusalOfSlide cX6_refusalOfSlide 5 (some .int) 2 := ⟨wm 605 (by decide +kernel) rfl, wm 606 (by decide +kernel) rfl, wm 607 (by decide +kernel) rfl, wm 3 (by decide +kernel) rfl, wm 608 rfl rfl, by decide +kernel⟩
set_option maxRecDepth 20000 in
theorem ac_X6_27 : Cond.methodLink RX6 27 arraycopyName ∈ WALL ∧ Cond.native arraycopyName ∈ WALL ∧ Cond.static arraycopyName ∈ WALL ∧ Cond.initialized "java/lang/System" ∈ WALL := ⟨wm 617 (by decide +kernel) rfl, wm 619 (by decide +kernel) rfl, wm 618 (by decide +kernel) rfl, wm 18 (by decide +kernel) rfl⟩
set_option maxRecDepth 20000 in
theorem cw_X6_55 : CwS RX6 55 yJ7_fill_eb02e cJ7_fill_eb02e 5 none 4 := ⟨wm 620 (by decide +kernel) rfl, wm 621 (by decide +kernel) rfl, wm 19 (by decide +kernel) rfl, wm 622 rfl rfl, by decide +kernel⟩
theorem dX6_slide_0 : decode cX6_slide 0 = .ok (.aload_n 0, 1) := by decide +kernel
theorem dX6_slide_1 : decode cX6_slide 1 = .ok (.iload_n 1, 1) := by decide +kernel
theorem dX6_slide_2 : decode cX6_slide 2 = .ok (.iload_n 2, 1) := by decide +kernel
theorem dX6_slide_3 : decode cX6_slide 3 = .ok (.invokevirtual 48, 3) := by decide +kernel
theorem dX6_slide_6 : decode cX6_slide 6 = .ok (.istore_n 3, 1) := by decide +kernel
theorem dX6_slide_7 : decode cX6_slide 7 = .ok (.iload_n 3, 1) := by decide +kernel
theorem dX6_slide_8 : decode cX6_slide 8 = .ok (.ifCond .eq 5, 3) := by decide +kernel
theorem dX6_slide_13 : decode cX6_slide 13 = .ok (.aload_n 0, 1) := by decide +kernel
theorem dX6_slide_14 : decode cX6_slide 14 = .ok (.iload_n 1, 1) := by decide +kernel
theorem dX6_slide_15 : decode cX6_slide 15 = .ok (.invokevirtual 52, 3) := by decide +kernel
theorem dX6_slide_18 : decode cX6_slide 18 = .ok (.istore 4, 2) := by decide +kernel
theorem dX6_slide_20 : decode cX6_slide 20 = .ok (.iload_n 2, 1) := by decide +kernel
theorem dX6_slide_21 : decode cX6_slide 21 = .ok (.ifCond .le 45, 3) := by decide +kernel
theorem dX6_slide_66 : decode cX6_slide 66 = .ok (.aload_n 0, 1) := by decide +kernel
theorem dX6_slide_67 : decode cX6_slide 67 = .ok (.getfield 9, 3) := by decide +kernel
theorem dX6_slide_70 : decode cX6_slide 70 = .ok (.iload 4, 2) := by decide +kernel
theorem dX6_slide_72 : decode cX6_slide 72 = .ok (.iload_n 2, 1) := by decide +kernel
theorem dX6_slide_73 : decode cX6_slide 73 = .ok (.isub, 1) := by decide +kernel
theorem dX6_slide_74 : decode cX6_slide 74 = .ok (.aload_n 0, 1) := by decide +kernel
theorem dX6_slide_75 : decode cX6_slide 75 = .ok (.getfield 9, 3) := by decide +kernel
theorem dX6_slide_78 : decode cX6_slide 78 = .ok (.iload 4, 2) := by decide +kernel
theorem dX6_slide_80 : decode cX6_slide 80 = .ok (.aload_n 0, 1) := by decide +kernel
theorem dX6_slide_81 : decode cX6_slide 81 = .ok (.getfield 15, 3) := by decide +kernel
theorem dX6_slide_84 : decode cX6_slide 84 = .ok (.iload 4, 2) := by decide +kernel
theorem dX6_slide_86 : decode cX6_slide 86 = .ok (.isub, 1) := by decide +kernel
theorem dX6_slide_87 : decode cX6_slide 87 = .ok (.iload_n 2, 1) := by decide +kernel
theorem dX6_slide_88 : decode cX6_slide 88 = .ok (.iadd, 1) := by decide +kernel
theorem dX6_slide_89 : decode cX6_slide 89 = .ok (.invokestatic 27, 3) := by decide +kernel
theorem dX6_slide_92 : decode cX6_slide 92 = .ok (.aload_n 0, 1) := by decide +kernel
theorem dX6_slide_93 : decode cX6_slide 93 = .ok (.dup, 1) := by decide +kernel
theorem dX6_slide_94 : decode cX6_slide 94 = .ok (.getfield 15, 3) := by decide +kernel
theorem dX6_slide_97 : decode cX6_slide 97 = .ok (.iload_n 2, 1) := by decide +kernel
theorem dX6_slide_98 : decode cX6_slide 98 = .ok (.iadd, 1) := by decide +kernel
theorem dX6_slide_99 : decode cX6_slide 99 = .ok (.putfield 15, 3) := by decide +kernel
theorem dX6_slide_102 : decode cX6_slide 102 = .ok (.iconst 1, 1) := by decide +kernel
theorem dX6_slide_103 : decode cX6_slide 103 = .ok (.ireturn, 1) := by decide +kernel
theorem dX6_slide_24 : decode cX6_slide 24 = .ok (.aload_n 0, 1) := by decide +kernel
theorem dX6_slide_25 : decode cX6_slide 25 = .ok (.getfield 9, 3) := by decide +kernel
theorem dX6_slide_28 : decode cX6_slide 28 = .ok (.iload 4, 2) := by decide +kernel
theorem dX6_slide_30 : decode cX6_slide 30 = .ok (.aload_n 0, 1) := by decide +kernel
theorem dX6_slide_31 : decode cX6_slide 31 = .ok (.getfield 9, 3) := by decide +kernel
theorem dX6_slide_34 : decode cX6_slide 34 = .ok (.iload 4, 2) := by decide +kernel
theorem dX6_slide_36 : decode cX6_slide 36 = .ok (.iload_n 2, 1) := by decide +kernel
theorem dX6_slide_37 : decode cX6_slide 37 = .ok (.iadd, 1) := by decide +kernel
theorem dX6_slide_38 : decode cX6_slide 38 = .ok (.aload_n 0, 1) := by decide +kernel
theorem dX6_slide_39 : decode cX6_slide 39 = .ok (.getfield 15, 3) := by decide +kernel
theorem dX6_slide_42 : decode cX6_slide 42 = .ok (.iload 4, 2) := by decide +kernel
theorem dX6_slide_44 : decode cX6_slide 44 = .ok (.isub, 1) := by decide +kernel
theorem dX6_slide_45 : decode cX6_slide 45 = .ok (.invokestatic 27, 3) := by decide +kernel
theorem dX6_slide_48 : decode cX6_slide 48 = .ok (.aload_n 0, 1) := by decide +kernel
theorem dX6_slide_49 : decode cX6_slide 49 = .ok (.getfield 9, 3) := by decide +kernel
theorem dX6_slide_52 : decode cX6_slide 52 = .ok (.iload 4, 2) := by decide +kernel
theorem dX6_slide_54 : decode cX6_slide 54 = .ok (.iload 4, 2) := by decide +kernel
theorem dX6_slide_56 : decode cX6_slide 56 = .ok (.iload_n 2, 1) := by decide +kernel
theorem dX6_slide_57 : decode cX6_slide 57 = .ok (.iadd, 1) := by decide +kernel
theorem dX6_slide_58 : decode cX6_slide 58 = .ok (.bipush 32, 2) := by decide +kernel
theorem dX6_slide_60 : decode cX6_slide 60 = .ok (.invokestatic 55, 3) := by decide +kernel
theorem dX6_slide_63 : decode cX6_slide 63 = .ok (.goto 29, 3) := by decide +kernel
theorem dX6_slide_11 : decode cX6_slide 11 = .ok (.iload_n 3, 1) := by decide +kernel
theorem dX6_slide_12 : decode cX6_slide 12 = .ok (.ireturn, 1) := by decide +kernel
set_option maxHeartbeats 4000000 in
set_option maxRecDepth 100000 in
theorem g_X6_slide_4 (l : Launch) (D : va_G) (tA : Nat → ClassId) (b : Nat) (i F : Nat → Nat → Int32) (G : Nat → Nat → Int64) (x y : Int32) (hsz : 0 ≤ (i 4 1).toInt ∧ (i 4 1).toInt ≤ 600) (hbf : ∀ j, fits .byte (.int (F 5 j)) = true) : xMI l yX6_slide cX6_slide 5 (some .int) 2 60 D tA b 0 78 i F G [.ref (b + 4), .int x, .int y] (fun r u => On 4 6 i F G u ∧ 0 ≤ (u.1 4 1).toInt ∧ (u.1 4 1).toInt ≤ 600 ∧ ∀ j, fits .byte (.int (u.2.1 5 j)) = true) := by
  refine xstart RX6 rfl (by decide) (Nat.le_of_ble_eq_true rfl) ?_
  intro p e s m below meth c ls C0 hr hH hS hl
  have hl : lv_has ls 5 [(0, .ref (b + 4)), (1, .int x), (2, .int y)] := hl
  have rg_x := fb_rng x
  have rg_y := fb_rng y
  refine lv_aload_n (pc := 0) C0.1 C0.2.1 dX6_slide_0 rfl (lv_at hl 0 rfl) ?_
  refine lv_iload_n (pc := 1) C0.1 C0.2.1 dX6_slide_1 rfl (lv_at hl 1 rfl) ?_
  refine lv_iload_n (pc := 2) C0.1 C0.2.1 dX6_slide_2 rfl (lv_at hl 2 rfl) ?_
  refine xcVI (pc := 3) 4 [.int x, .int y] (g_X6_refusalOfSlide_4 l D tA b i F G x y hsz) C0 hH hS clX6 rfl ⟨⟨Nat.le_of_ble_eq_true rfl, Nat.le_of_ble_eq_true rfl⟩, rfl, rfl⟩ cw_X6_48 rfl ⟨Nat.le_of_ble_eq_true rfl, Nat.le_of_ble_eq_true rfl⟩ hl.1 rfl (Nat.le_of_ble_eq_true rfl) dX6_slide_3 ⟨Nat.le_of_ble_eq_true rfl, Nat.le_of_ble_eq_true rfl⟩ (fun r1 ir1 Fr1 Gr1 _ locs hp hH hS => ?_)
  obtain ⟨hu, hpr1⟩ := hp
  cases hu
  refine lv_istore_n (pc := 6) (lv' := [(3, .int r1), (0, .ref (b + 4)), (1, .int x), (2, .int y)]) C0.1 C0.2.1 dX6_slide_6 rfl hl (by decide) rfl (fun ls hl => ?_)
  refine lv_iload_n (pc := 7) C0.1 C0.2.1 dX6_slide_7 rfl (lv_at hl 0 rfl) ?_
  refine lv_if_eq (pc := 8) (tgt := 13) C0.1 C0.2.1 dX6_slide_8 (by decide) (fun c2 => ?_) (fun c2 => ?_)
  · have : Int32.toInt 0 = 0 := rfl
    have c2 := congrArg Int32.toInt c2
    refine lv_aload_n (pc := 13) C0.1 C0.2.1 dX6_slide_13 rfl (lv_at hl 1 rfl) ?_
    refine lv_iload_n (pc := 14) C0.1 C0.2.1 dX6_slide_14 rfl (lv_at hl 2 rfl) ?_
    refine xcVI (pc := 15) 4 [.int x] (g_X6_startOf_4 l D tA b i F G x hsz) C0 hH hS clX6 rfl ⟨⟨Nat.le_of_ble_eq_true rfl, Nat.le_of_ble_eq_true rfl⟩, rfl, rfl⟩ cw_X6_52 rfl ⟨Nat.le_of_ble_eq_true rfl, Nat.le_of_ble_eq_true rfl⟩ hl.1 rfl (Nat.le_of_ble_eq_true rfl) dX6_slide_15 ⟨Nat.le_of_ble_eq_true rfl, Nat.le_of_ble_eq_true rfl⟩ (fun r3 ir3 Fr3 Gr3 _ locs hp hH hS => ?_)
    obtain ⟨hu, hpr3⟩ := hp
    cases hu
    refine lv_istore (pc := 18) (lv' := [(4, .int r3), (3, .int r1), (0, .ref (b + 4)), (1, .int x), (2, .int y)]) C0.1 C0.2.1 dX6_slide_18 hl (by decide) rfl (fun ls hl => ?_)
    have hq := hpr1 (by have : Int32.toInt 0 = 0 := rfl; omega)
    rw [← hpr3.2] at hq
    refine lv_iload_n (pc := 20) C0.1 C0.2.1 dX6_slide_20 rfl (lv_at hl 4 rfl) ?_
    refine lv_if_le (pc := 21) (tgt := 66) C0.1 C0.2.1 dX6_slide_21 (by decide) (fun c4 => ?_) (fun c4 => ?_)
    · have : Int32.toInt 0 = 0 := rfl
      have c4 := Int32.le_iff_toInt_le.mp c4
      refine lv_aload_n (pc := 66) C0.1 C0.2.1 dX6_slide_66 rfl (lv_at hl 2 rfl) ?_
      refine xget (pc := 67) C0 hH 4 0 clX6 ⟨Nat.le_of_ble_eq_true rfl, Nat.le_of_ble_eq_true rfl⟩ ⟨rfl, rfl⟩ (Nat.le_of_ble_eq_true rfl) fl_X6_9 (v := .ref (b + 5)) rfl dX6_slide_67 ?_
      refine lv_iload (pc := 70) C0.1 C0.2.1 dX6_slide_70 (lv_at hl 0 rfl) ?_
      refine lv_iload_n (pc := 72) C0.1 C0.2.1 dX6_slide_72 rfl (lv_at hl 4 rfl) ?_
      refine lv_isub (pc := 73) C0.1 C0.2.1 dX6_slide_73 ?_
      refine lv_topi (fun x5 ex5 => ?_)
      have hx5 : Int32.toInt x5 = Int32.toInt r3 - Int32.toInt y := by rw [ex5]; exact fb_subI (by omega) (by omega)
      refine lv_aload_n (pc := 74) C0.1 C0.2.1 dX6_slide_74 rfl (lv_at hl 2 rfl) ?_
      refine xget (pc := 75) C0 hH 4 0 clX6 ⟨Nat.le_of_ble_eq_true rfl, Nat.le_of_ble_eq_true rfl⟩ ⟨rfl, rfl⟩ (Nat.le_of_ble_eq_true rfl) fl_X6_9 (v := .ref (b + 5)) rfl dX6_slide_75 ?_
      refine lv_iload (pc := 78) C0.1 C0.2.1 dX6_slide_78 (lv_at hl 0 rfl) ?_
      refine lv_aload_n (pc := 80) C0.1 C0.2.1 dX6_slide_80 rfl (lv_at hl 2 rfl) ?_
      refine xget (pc := 81) C0 hH 4 1 clX6 ⟨Nat.le_of_ble_eq_true rfl, Nat.le_of_ble_eq_true rfl⟩ ⟨rfl, rfl⟩ (Nat.le_of_ble_eq_true rfl) fl_X6_15 (v := .int (i 4 1)) rfl dX6_slide_81 ?_
      refine lv_iload (pc := 84) C0.1 C0.2.1 dX6_slide_84 (lv_at hl 0 rfl) ?_
      refine lv_isub (pc := 86) C0.1 C0.2.1 dX6_slide_86 ?_
      refine lv_topi (fun x6 ex6 => ?_)
      have hx6 : Int32.toInt x6 = Int32.toInt (i 4 1) - Int32.toInt r3 := by rw [ex6]; exact fb_subI (by omega) (by omega)
      refine lv_iload_n (pc := 87) C0.1 C0.2.1 dX6_slide_87 rfl (lv_at hl 4 rfl) ?_
      refine lv_iadd (pc := 88) C0.1 C0.2.1 dX6_slide_88 ?_
      refine lv_topi (fun x7 ex7 => ?_)
      have hx7 : Int32.toInt x7 = Int32.toInt x6 + Int32.toInt y := by rw [ex7]; exact fb_addI (by omega) (by omega)
      refine xcopyb (pc := 89) (N0 := 600) (N1 := 600) C0 (Nat.le_of_ble_eq_true rfl) hH hS 5 5 ⟨Nat.le_of_ble_eq_true rfl, Nat.le_of_ble_eq_true rfl⟩ ⟨Nat.le_of_ble_eq_true rfl, Nat.le_of_ble_eq_true rfl⟩ ⟨rfl, rfl⟩ ⟨rfl, rfl⟩ ac_X6_27 (cp_ok (by omega) (by omega) (by omega) (by omega) (by omega) hbf) (Nat.le_of_ble_eq_true rfl) (Nat.le_of_ble_eq_true rfl) hl.1 dX6_slide_89 (fun _ locs hH hS => ?_)
      have hH : Hd D tA b 0 78 zz i (va_up F 5 (va_cpy (F 5) (F 5) (Int32.toNatClampNeg x5) (Int32.toNatClampNeg r3) (Int32.toNatClampNeg x7))) G _ := hH
      refine lv_aload_n (pc := 92) C0.1 C0.2.1 dX6_slide_92 rfl (lv_at hl 2 rfl) ?_
      refine lv_dup (pc := 93) C0.1 C0.2.1 dX6_slide_93 rfl ?_
      refine xget (pc := 94) C0 hH 4 1 clX6 ⟨Nat.le_of_ble_eq_true rfl, Nat.le_of_ble_eq_true rfl⟩ ⟨rfl, rfl⟩ (Nat.le_of_ble_eq_true rfl) fl_X6_15 (v := .int (i 4 1)) rfl dX6_slide_94 ?_
      refine lv_iload_n (pc := 97) C0.1 C0.2.1 dX6_slide_97 rfl (lv_at hl 4 rfl) ?_
      refine lv_iadd (pc := 98) C0.1 C0.2.1 dX6_slide_98 ?_
      refine lv_topi (fun x8 ex8 => ?_)
      have hx8 : Int32.toInt x8 = Int32.toInt (i 4 1) + Int32.toInt y := by rw [ex8]; exact fb_addI (by omega) (by omega)
      refine xputI (pc := 99) C0 (Nat.le_of_ble_eq_true rfl) hH hS 4 1 clX6 ⟨Nat.le_of_ble_eq_true rfl, Nat.le_of_ble_eq_true rfl⟩ ⟨rfl, rfl⟩ ⟨Nat.le_of_ble_eq_true rfl, rfl, rfl⟩ fl_X6_15 (x := x8) ⟨rfl, rfl⟩ dX6_slide_99 (fun _ locs hH hS _ => ?_)
      have hH : Hd D tA b 0 78 zz (up2 i 4 1 x8) (va_up F 5 (va_cpy (F 5) (F 5) (Int32.toNatClampNeg x5) (Int32.toNatClampNeg r3) (Int32.toNatClampNeg x7))) G _ := hH
      refine lv_iconst (pc := 102) (v := 1) C0.1 C0.2.1 dX6_slide_102 (by decide) ?_
      exact xiret (pc := 103) C0 hr hH hS dX6_slide_103 ⟨On.f (On.i On.rf (by decide)) (by decide), by show 0 ≤ Int32.toInt x8; omega, by show Int32.toInt x8 ≤ 600; omega, fun j => by show fits .byte (.int (va_up F 5 _ 5 j)) = true; rw [va_up_self]; exact bf_cpy hbf hbf j⟩
    · have : Int32.toInt 0 = 0 := rfl
      have c4 : ¬ _ := fun q => c4 (Int32.le_iff_toInt_le.mpr q)
      refine lv_aload_n (pc := 24) C0.1 C0.2.1 dX6_slide_24 rfl (lv_at hl 2 rfl) ?_
      refine xget (pc := 25) C0 hH 4 0 clX6 ⟨Nat.le_of_ble_eq_true rfl, Nat.le_of_ble_eq_true rfl⟩ ⟨rfl, rfl⟩ (Nat.le_of_ble_eq_true rfl) fl_X6_9 (v := .ref (b + 5)) rfl dX6_slide_25 ?_
      refine lv_iload (pc := 28) C0.1 C0.2.1 dX6_slide_28 (lv_at hl 0 rfl) ?_
      refine lv_aload_n (pc := 30) C0.1 C0.2.1 dX6_slide_30 rfl (lv_at hl 2 rfl) ?_
      refine xget (pc := 31) C0 hH 4 0 clX6 ⟨Nat.le_of_ble_eq_true rfl, Nat.le_of_ble_eq_true rfl⟩ ⟨rfl, rfl⟩ (Nat.le_of_ble_eq_true rfl) fl_X6_9 (v := .ref (b + 5)) rfl dX6_slide_31 ?_
      refine lv_iload (pc := 34) C0.1 C0.2.1 dX6_slide_34 (lv_at hl 0 rfl) ?_
      refine lv_iload_n (pc := 36) C0.1 C0.2.1 dX6_slide_36 rfl (lv_at hl 4 rfl) ?_
      refine lv_iadd (pc := 37) C0.1 C0.2.1 dX6_slide_37 ?_
      refine lv_topi (fun x9 ex9 => ?_)
      have hx9 : Int32.toInt x9 = Int32.toInt r3 + Int32.toInt y := by rw [ex9]; exact fb_addI (by omega) (by omega)
      refine lv_aload_n (pc := 38) C0.1 C0.2.1 dX6_slide_38 rfl (lv_at hl 2 rfl) ?_
      refine xget (pc := 39) C0 hH 4 1 clX6 ⟨Nat.le_of_ble_eq_true rfl, Nat.le_of_ble_eq_true rfl⟩ ⟨rfl, rfl⟩ (Nat.le_of_ble_eq_true rfl) fl_X6_15 (v := .int (i 4 1)) rfl dX6_slide_39 ?_
      refine lv_iload (pc := 42) C0.1 C0.2.1 dX6_slide_42 (lv_at hl 0 rfl) ?_
      refine lv_isub (pc := 44) C0.1 C0.2.1 dX6_slide_44 ?_
      refine lv_topi (fun x10 ex10 => ?_)
      have hx10 : Int32.toInt x10 = Int32.toInt (i 4 1) - Int32.toInt r3 := by rw [ex10]; exact fb_subI (by omega) (by omega)
      refine xcopyb (pc := 45) (N0 := 600) (N1 := 600) C0 (Nat.le_of_ble_eq_true rfl) hH hS 5 5 ⟨Nat.le_of_ble_eq_true rfl, Nat.le_of_ble_eq_true rfl⟩ ⟨Nat.le_of_ble_eq_true rfl, Nat.le_of_ble_eq_true rfl⟩ ⟨rfl, rfl⟩ ⟨rfl, rfl⟩ ac_X6_27 (cp_ok (by omega) (by omega) (by omega) (by omega) (by omega) hbf) (Nat.le_of_ble_eq_true rfl) (Nat.le_of_ble_eq_true rfl) hl.1 dX6_slide_45 (fun _ locs hH hS => ?_)
      have hH : Hd D tA b 0 78 zz i (va_up F 5 (va_cpy (F 5) (F 5) (Int32.toNatClampNeg r3) (Int32.toNatClampNeg x9) (Int32.toNatClampNeg x10))) G _ := hH
      have hbc : ∀ j, fits .byte (.int ((va_up F 5 (va_cpy (F 5) (F 5) (Int32.toNatClampNeg r3) (Int32.toNatClampNeg x9) (Int32.toNatClampNeg x10))) 5 j)) = true := fun j => by show fits .byte (.int (va_up F 5 _ 5 j)) = true; rw [va_up_self]; exact bf_cpy hbf hbf j
      refine lv_aload_n (pc := 48) C0.1 C0.2.1 dX6_slide_48 rfl (lv_at hl 2 rfl) ?_
      refine xget (pc := 49) C0 hH 4 0 clX6 ⟨Nat.le_of_ble_eq_true rfl, Nat.le_of_ble_eq_true rfl⟩ ⟨rfl, rfl⟩ (Nat.le_of_ble_eq_true rfl) fl_X6_9 (v := .ref (b + 5)) rfl dX6_slide_49 ?_
      refine lv_iload (pc := 52) C0.1 C0.2.1 dX6_slide_52 (lv_at hl 0 rfl) ?_
      refine lv_iload (pc := 54) C0.1 C0.2.1 dX6_slide_54 (lv_at hl 0 rfl) ?_
      refine lv_iload_n (pc := 56) C0.1 C0.2.1 dX6_slide_56 rfl (lv_at hl 4 rfl) ?_
      refine lv_iadd (pc := 57) C0.1 C0.2.1 dX6_slide_57 ?_
      refine lv_topi (fun x11 ex11 => ?_)
      have hx11 : Int32.toInt x11 = Int32.toInt r3 + Int32.toInt y := by rw [ex11]; exact fb_addI (by omega) (by omega)
      refine lv_bipush (pc := 58) (v := 32) C0.1 C0.2.1 dX6_slide_58 (by decide) ?_
      refine xcSV (pc := 60) [.ref (b + 5), .int r3, .int x11, .int 32] (g_J7_fillB_5 l D tA b i (va_up F 5 (va_cpy (F 5) (F 5) (Int32.toNatClampNeg r3) (Int32.toNatClampNeg x9) (Int32.toNatClampNeg x10))) G r3 x11 32 (by have : Int32.toInt 0 = 0 := rfl; omega) hbc) C0 hH hS cw_X6_55 rfl ⟨Nat.le_of_ble_eq_true rfl, Nat.le_of_ble_eq_true rfl⟩ hl.1 rfl (Nat.le_of_ble_eq_true rfl) dX6_slide_60 ⟨Nat.le_of_ble_eq_true rfl, Nat.le_of_ble_eq_true rfl⟩ (fun ir12 Fr12 Gr12 _ locs hp hH hS => ?_)
      obtain ⟨hon, hbf2⟩ := hp
      have e4 : ir12 4 1 = i 4 1 := congrFun (hon.1 4 (by decide)).1 1
      have e4I := congrArg Int32.toInt e4
      refine lv_goto (pc := 63) (tgt := 92) C0.1 C0.2.1 dX6_slide_63 (by decide) ?_
      refine lv_aload_n (pc := 92) C0.1 C0.2.1 dX6_slide_92 rfl (lv_at hl 2 rfl) ?_
      refine lv_dup (pc := 93) C0.1 C0.2.1 dX6_slide_93 rfl ?_
      refine xget (pc := 94) C0 hH 4 1 clX6 ⟨Nat.le_of_ble_eq_true rfl, Nat.le_of_ble_eq_true rfl⟩ ⟨rfl, rfl⟩ (Nat.le_of_ble_eq_true rfl) fl_X6_15 (v := .int (ir12 4 1)) rfl dX6_slide_94 ?_
      refine lv_iload_n (pc := 97) C0.1 C0.2.1 dX6_slide_97 rfl (lv_at hl 4 rfl) ?_
      refine lv_iadd (pc := 98) C0.1 C0.2.1 dX6_slide_98 ?_
      refine lv_topi (fun x13 ex13 => ?_)
      have hx13 : Int32.toInt x13 = Int32.toInt (ir12 4 1) + Int32.toInt y := by rw [ex13]; exact fb_addI (by omega) (by omega)
      refine xputI (pc := 99) C0 (Nat.le_of_ble_eq_true rfl) hH hS 4 1 clX6 ⟨Nat.le_of_ble_eq_true rfl, Nat.le_of_ble_eq_true rfl⟩ ⟨rfl, rfl⟩ ⟨Nat.le_of_ble_eq_true rfl, rfl, rfl⟩ fl_X6_15 (x := x13) ⟨rfl, rfl⟩ dX6_slide_99 (fun _ locs hH hS _ => ?_)
      have hH : Hd D tA b 0 78 zz (up2 ir12 4 1 x13) Fr12 Gr12 _ := hH
      refine lv_iconst (pc := 102) (v := 1) C0.1 C0.2.1 dX6_slide_102 (by decide) ?_
      exact xiret (pc := 103) C0 hr hH hS dX6_slide_103 ⟨On.i (On.tr (On.f On.rf (by decide)) hon (by decide) (by decide)) (by decide), by show 0 ≤ Int32.toInt x13; omega, by show Int32.toInt x13 ≤ 600; omega, hbf2⟩
  · have : Int32.toInt 0 = 0 := rfl
    have c2 : ¬ _ := fun q => c2 (Int32.toInt_inj.mp q)
    refine lv_iload_n (pc := 11) C0.1 C0.2.1 dX6_slide_11 rfl (lv_at hl 0 rfl) ?_
    exact xiret (pc := 12) C0 hr hH hS dX6_slide_12 ⟨On.rf, hsz.1, hsz.2, hbf⟩
