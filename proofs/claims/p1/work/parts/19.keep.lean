set_option maxRecDepth 20000 in
theorem cw_X9_98 : CwV RX9 98 yX6_copyFrom cX6_copyFrom 2 none 1 := ⟨wm 630 (by decide +kernel) rfl, wm 631 (by decide +kernel) rfl, wm 632 (by decide +kernel) rfl, wm 3 (by decide +kernel) rfl, wm 633 rfl rfl, by decide +kernel⟩
set_option maxRecDepth 20000 in
theorem ac_X6_27 : Cond.methodLink RX6 27 arraycopyName ∈ WALL ∧ Cond.native arraycopyName ∈ WALL ∧ Cond.static arraycopyName ∈ WALL ∧ Cond.initialized "java/lang/System" ∈ WALL := ⟨wm 617 (by decide +kernel) rfl, wm 619 (by decide +kernel) rfl, wm 618 (by decide +kernel) rfl, wm 18 (by decide +kernel) rfl⟩
set_option maxRecDepth 20000 in
theorem fl_X10_242 : Cond.fieldLink RX10 242 (TX10 14).1 (TX10 14).2.1 (TX10 14).2.2.1 ∈ WALL := wm 1038 (by decide +kernel) rfl
theorem dX9_keep_0 : decode cX9_keep 0 = .ok (.aload_n 0, 1) := by decide +kernel
theorem dX9_keep_1 : decode cX9_keep 1 = .ok (.getfield 23, 3) := by decide +kernel
theorem dX9_keep_4 : decode cX9_keep 4 = .ok (.aload_n 0, 1) := by decide +kernel
theorem dX9_keep_5 : decode cX9_keep 5 = .ok (.getfield 19, 3) := by decide +kernel
theorem dX9_keep_8 : decode cX9_keep 8 = .ok (.invokevirtual 98, 3) := by decide +kernel
theorem dX9_keep_11 : decode cX9_keep 11 = .ok (.aload_n 0, 1) := by decide +kernel
theorem dX9_keep_12 : decode cX9_keep 12 = .ok (.getfield 23, 3) := by decide +kernel
theorem dX9_keep_15 : decode cX9_keep 15 = .ok (.getfield 102, 3) := by decide +kernel
theorem dX9_keep_18 : decode cX9_keep 18 = .ok (.ireturn, 1) := by decide +kernel
theorem dX6_copyFrom_0 : decode cX6_copyFrom 0 = .ok (.aload_n 1, 1) := by decide +kernel
theorem dX6_copyFrom_1 : decode cX6_copyFrom 1 = .ok (.getfield 9, 3) := by decide +kernel
theorem dX6_copyFrom_4 : decode cX6_copyFrom 4 = .ok (.iconst 0, 1) := by decide +kernel
theorem dX6_copyFrom_5 : decode cX6_copyFrom 5 = .ok (.aload_n 0, 1) := by decide +kernel
theorem dX6_copyFrom_6 : decode cX6_copyFrom 6 = .ok (.getfield 9, 3) := by decide +kernel
theorem dX6_copyFrom_9 : decode cX6_copyFrom 9 = .ok (.iconst 0, 1) := by decide +kernel
theorem dX6_copyFrom_10 : decode cX6_copyFrom 10 = .ok (.aload_n 1, 1) := by decide +kernel
theorem dX6_copyFrom_11 : decode cX6_copyFrom 11 = .ok (.getfield 15, 3) := by decide +kernel
theorem dX6_copyFrom_14 : decode cX6_copyFrom 14 = .ok (.invokestatic 27, 3) := by decide +kernel
theorem dX6_copyFrom_17 : decode cX6_copyFrom 17 = .ok (.aload_n 0, 1) := by decide +kernel
theorem dX6_copyFrom_18 : decode cX6_copyFrom 18 = .ok (.aload_n 1, 1) := by decide +kernel
theorem dX6_copyFrom_19 : decode cX6_copyFrom 19 = .ok (.getfield 15, 3) := by decide +kernel
theorem dX6_copyFrom_22 : decode cX6_copyFrom 22 = .ok (.putfield 15, 3) := by decide +kernel
theorem dX6_copyFrom_25 : decode cX6_copyFrom 25 = .ok (.return_, 1) := by decide +kernel
theorem dX10_keep_0 : decode cX10_keep 0 = .ok (.iconst 0, 1) := by decide +kernel
theorem dX10_keep_1 : decode cX10_keep 1 = .ok (.istore_n 1, 1) := by decide +kernel
theorem dX10_keep_2 : decode cX10_keep 2 = .ok (.iload_n 1, 1) := by decide +kernel
theorem dX10_keep_3 : decode cX10_keep 3 = .ok (.aload_n 0, 1) := by decide +kernel
theorem dX10_keep_4 : decode cX10_keep 4 = .ok (.getfield 219, 3) := by decide +kernel
theorem dX10_keep_7 : decode cX10_keep 7 = .ok (.if_icmp .ge 21, 3) := by decide +kernel
theorem dX10_keep_28 : decode cX10_keep 28 = .ok (.aload_n 0, 1) := by decide +kernel
theorem dX10_keep_29 : decode cX10_keep 29 = .ok (.aload_n 0, 1) := by decide +kernel
theorem dX10_keep_30 : decode cX10_keep 30 = .ok (.getfield 219, 3) := by decide +kernel
theorem dX10_keep_33 : decode cX10_keep 33 = .ok (.putfield 242, 3) := by decide +kernel
theorem dX10_keep_36 : decode cX10_keep 36 = .ok (.aload_n 0, 1) := by decide +kernel
theorem dX10_keep_37 : decode cX10_keep 37 = .ok (.getfield 219, 3) := by decide +kernel
theorem dX10_keep_40 : decode cX10_keep 40 = .ok (.ireturn, 1) := by decide +kernel
set_option maxHeartbeats 4000000 in
set_option maxRecDepth 100000 in
theorem a50_X6_copyFrom (l : Launch) (D : va_G) (tA : Nat → ClassId) (b : Nat) (i F : Nat → Nat → Int32) (G : Nat → Nat → Int64)  (hi_4_1 : i 4 1 = 0) : xMV l yX6_copyFrom cX6_copyFrom 2 none 1 60 D tA b 0 78 i F G [.ref (b + 6), .ref (b + 4)] (fun u => u = ((up2 i 6 1 0), (va_up F 7 (va_cpy (F 5) (F 7) (Int32.toNatClampNeg 0) (Int32.toNatClampNeg 0) (Int32.toNatClampNeg 0))), G)) := by
  refine xstart RX6 rfl (by decide) (Nat.le_of_ble_eq_true rfl) ?_
  intro p e s m below meth c ls C0 hr hH hS hl
  have hl : lv_has ls 2 [(0, .ref (b + 6)), (1, .ref (b + 4))] := hl
  refine lv_aload_n (pc := 0) C0.1 C0.2.1 dX6_copyFrom_0 rfl (lv_at hl 1 rfl) ?_
  refine xget (pc := 1) C0 hH 4 0 clX6 ⟨Nat.le_of_ble_eq_true rfl, Nat.le_of_ble_eq_true rfl⟩ ⟨rfl, rfl⟩ (Nat.le_of_ble_eq_true rfl) fl_X6_9 (v := .ref (b + 5)) rfl dX6_copyFrom_1 ?_
  refine lv_iconst (pc := 4) (v := 0) C0.1 C0.2.1 dX6_copyFrom_4 (by decide) ?_
  refine lv_aload_n (pc := 5) C0.1 C0.2.1 dX6_copyFrom_5 rfl (lv_at hl 0 rfl) ?_
  refine xget (pc := 6) C0 hH 6 0 clX6 ⟨Nat.le_of_ble_eq_true rfl, Nat.le_of_ble_eq_true rfl⟩ ⟨rfl, rfl⟩ (Nat.le_of_ble_eq_true rfl) fl_X6_9 (v := .ref (b + 7)) rfl dX6_copyFrom_6 ?_
  refine lv_iconst (pc := 9) (v := 0) C0.1 C0.2.1 dX6_copyFrom_9 (by decide) ?_
  refine lv_aload_n (pc := 10) C0.1 C0.2.1 dX6_copyFrom_10 rfl (lv_at hl 1 rfl) ?_
  refine xget (pc := 11) C0 hH 4 1 clX6 ⟨Nat.le_of_ble_eq_true rfl, Nat.le_of_ble_eq_true rfl⟩ ⟨rfl, rfl⟩ (Nat.le_of_ble_eq_true rfl) fl_X6_15 (v := .int 0) (congrArg Value.int hi_4_1) dX6_copyFrom_11 ?_
  refine xcopyb (pc := 14) (N0 := 600) (N1 := 600) C0 (Nat.le_of_ble_eq_true rfl) hH hS 5 7 ⟨Nat.le_of_ble_eq_true rfl, Nat.le_of_ble_eq_true rfl⟩ ⟨Nat.le_of_ble_eq_true rfl, Nat.le_of_ble_eq_true rfl⟩ ⟨rfl, rfl⟩ ⟨rfl, rfl⟩ ac_X6_27 ⟨⟨by decide, by decide, by decide⟩, by decide, by decide, fun j hj => absurd hj (Nat.not_lt_zero j)⟩ (Nat.le_of_ble_eq_true rfl) (Nat.le_of_ble_eq_true rfl) hl.1 dX6_copyFrom_14 (fun _ locs hH hS => ?_)
  have hH : Hd D tA b 0 78 zz i (va_up F 7 (va_cpy (F 5) (F 7) (Int32.toNatClampNeg 0) (Int32.toNatClampNeg 0) (Int32.toNatClampNeg 0))) G _ := hH
  refine lv_aload_n (pc := 17) C0.1 C0.2.1 dX6_copyFrom_17 rfl (lv_at hl 0 rfl) ?_
  refine lv_aload_n (pc := 18) C0.1 C0.2.1 dX6_copyFrom_18 rfl (lv_at hl 1 rfl) ?_
  refine xget (pc := 19) C0 hH 4 1 clX6 ⟨Nat.le_of_ble_eq_true rfl, Nat.le_of_ble_eq_true rfl⟩ ⟨rfl, rfl⟩ (Nat.le_of_ble_eq_true rfl) fl_X6_15 (v := .int 0) (congrArg Value.int hi_4_1) dX6_copyFrom_19 ?_
  refine xputI (pc := 22) C0 (Nat.le_of_ble_eq_true rfl) hH hS 6 1 clX6 ⟨Nat.le_of_ble_eq_true rfl, Nat.le_of_ble_eq_true rfl⟩ ⟨rfl, rfl⟩ ⟨Nat.le_of_ble_eq_true rfl, rfl, rfl⟩ fl_X6_15 (x := 0) ⟨rfl, rfl⟩ dX6_copyFrom_22 (fun _ locs hH hS _ => ?_)
  have hH : Hd D tA b 0 78 zz (up2 i 6 1 0) (va_up F 7 (va_cpy (F 5) (F 7) (Int32.toNatClampNeg 0) (Int32.toNatClampNeg 0) (Int32.toNatClampNeg 0))) G _ := hH
  exact xvret (pc := 25) C0 hr hH hS dX6_copyFrom_25 rfl
set_option maxHeartbeats 4000000 in
set_option maxRecDepth 100000 in
theorem p_X9_keep (l : Launch) (D : va_G) (tA : Nat → ClassId) (b : Nat) (i F : Nat → Nat → Int32) (G : Nat → Nat → Int64)  (hi_4_1 : i 4 1 = 0) : xMI l yX9_keep cX9_keep 1 (some .int) 2 81 D tA b 0 78 i F G [.ref (b + 0)] (fun r _ => r = 0) := by
  refine xstart RX9 rfl (by decide) (Nat.le_of_ble_eq_true rfl) ?_
  intro p e s m below meth c ls C0 hr hH hS hl
  have hl : lv_has ls 1 [(0, .ref (b + 0))] := hl
  refine lv_aload_n (pc := 0) C0.1 C0.2.1 dX9_keep_0 rfl (lv_at hl 0 rfl) ?_
  refine xget (pc := 1) C0 hH 0 2 clX9 ⟨Nat.le_of_ble_eq_true rfl, Nat.le_of_ble_eq_true rfl⟩ ⟨rfl, rfl⟩ (Nat.le_of_ble_eq_true rfl) fl_X9_23 (v := .ref (b + 6)) rfl dX9_keep_1 ?_
  refine lv_aload_n (pc := 4) C0.1 C0.2.1 dX9_keep_4 rfl (lv_at hl 0 rfl) ?_
  refine xget (pc := 5) C0 hH 0 1 clX9 ⟨Nat.le_of_ble_eq_true rfl, Nat.le_of_ble_eq_true rfl⟩ ⟨rfl, rfl⟩ (Nat.le_of_ble_eq_true rfl) fl_X9_19 (v := .ref (b + 4)) rfl dX9_keep_5 ?_
  refine xcVV (pc := 8) 6 [.ref (b + 4)] (a50_X6_copyFrom l D tA b i F G  (by exact hi_4_1)) C0 hH hS clX6 rfl ⟨⟨Nat.le_of_ble_eq_true rfl, Nat.le_of_ble_eq_true rfl⟩, rfl, rfl⟩ cw_X9_98 rfl ⟨Nat.le_of_ble_eq_true rfl, Nat.le_of_ble_eq_true rfl⟩ hl.1 rfl (Nat.le_of_ble_eq_true rfl) dX9_keep_8 ⟨Nat.le_of_ble_eq_true rfl, Nat.le_of_ble_eq_true rfl⟩ (fun ir1 Fr1 Gr1 _ locs hp hH hS => ?_)
  cases hp
  have hH : Hd D tA b 0 78 zz (up2 i 6 1 0) (va_up F 7 (va_cpy (F 5) (F 7) (Int32.toNatClampNeg 0) (Int32.toNatClampNeg 0) (Int32.toNatClampNeg 0))) G _ := hH
  refine lv_aload_n (pc := 11) C0.1 C0.2.1 dX9_keep_11 rfl (lv_at hl 0 rfl) ?_
  refine xget (pc := 12) C0 hH 0 2 clX9 ⟨Nat.le_of_ble_eq_true rfl, Nat.le_of_ble_eq_true rfl⟩ ⟨rfl, rfl⟩ (Nat.le_of_ble_eq_true rfl) fl_X9_23 (v := .ref (b + 6)) rfl dX9_keep_12 ?_
  refine xget (pc := 15) C0 hH 6 1 clX6 ⟨Nat.le_of_ble_eq_true rfl, Nat.le_of_ble_eq_true rfl⟩ ⟨rfl, rfl⟩ (Nat.le_of_ble_eq_true rfl) fl_X9_102 (v := .int 0) rfl dX9_keep_15 ?_
  exact xiret (pc := 18) C0 hr hH hS dX9_keep_18 rfl
set_option maxHeartbeats 4000000 in
set_option maxRecDepth 100000 in
theorem p_X10_keep (l : Launch) (D : va_G) (tA : Nat → ClassId) (b : Nat) (i F : Nat → Nat → Int32) (G : Nat → Nat → Int64)  (hi_78_12 : i 78 12 = 0) : xMI l yX10_keep cX10_keep 2 (some .int) 0 0 D tA b 78 52 i F G [.ref (b + 78)] (fun r _ => r = 0) := by
  refine xstart RX10 rfl (by decide) (Nat.le_of_ble_eq_true rfl) ?_
  intro p e s m below meth c ls C0 hr hH hS hl
  have hl : lv_has ls 2 [(0, .ref (b + 78))] := hl
  refine lv_iconst (pc := 0) (v := 0) C0.1 C0.2.1 dX10_keep_0 (by decide) ?_
  refine lv_istore_n (pc := 1) (lv' := [(1, .int 0), (0, .ref (b + 78))]) C0.1 C0.2.1 dX10_keep_1 rfl hl (by decide) rfl (fun ls hl => ?_)
  refine lv_iload_n (pc := 2) C0.1 C0.2.1 dX10_keep_2 rfl (lv_at hl 0 rfl) ?_
  refine lv_aload_n (pc := 3) C0.1 C0.2.1 dX10_keep_3 rfl (lv_at hl 1 rfl) ?_
  refine xget (pc := 4) C0 hH 78 12 clX10 ⟨Nat.le_of_ble_eq_true rfl, Nat.le_of_ble_eq_true rfl⟩ ⟨rfl, rfl⟩ (Nat.le_of_ble_eq_true rfl) fl_X10_219 (v := .int 0) (congrArg Value.int hi_78_12) dX10_keep_4 ?_
  refine lv_icmp_ge (pc := 7) (tgt := 28) C0.1 C0.2.1 dX10_keep_7 (by decide) (fun _ => ?_) (fun c => absurd (by decide) c)
  refine lv_aload_n (pc := 28) C0.1 C0.2.1 dX10_keep_28 rfl (lv_at hl 1 rfl) ?_
  refine lv_aload_n (pc := 29) C0.1 C0.2.1 dX10_keep_29 rfl (lv_at hl 1 rfl) ?_
  refine xget (pc := 30) C0 hH 78 12 clX10 ⟨Nat.le_of_ble_eq_true rfl, Nat.le_of_ble_eq_true rfl⟩ ⟨rfl, rfl⟩ (Nat.le_of_ble_eq_true rfl) fl_X10_219 (v := .int 0) (congrArg Value.int hi_78_12) dX10_keep_30 ?_
  refine xputI (pc := 33) C0 (Nat.le_of_ble_eq_true rfl) hH hS 78 14 clX10 ⟨Nat.le_of_ble_eq_true rfl, Nat.le_of_ble_eq_true rfl⟩ ⟨rfl, rfl⟩ ⟨Nat.le_of_ble_eq_true rfl, rfl, rfl⟩ fl_X10_242 (x := 0) ⟨rfl, rfl⟩ dX10_keep_33 (fun _ locs hH hS _ => ?_)
  have hH : Hd D tA b 78 52 zz (up2 i 78 14 0) F G _ := hH
  refine lv_aload_n (pc := 36) C0.1 C0.2.1 dX10_keep_36 rfl (lv_at hl 1 rfl) ?_
  refine xget (pc := 37) C0 hH 78 12 clX10 ⟨Nat.le_of_ble_eq_true rfl, Nat.le_of_ble_eq_true rfl⟩ ⟨rfl, rfl⟩ (Nat.le_of_ble_eq_true rfl) fl_X10_219 (v := .int 0) (congrArg Value.int hi_78_12) dX10_keep_37 ?_
  exact xiret (pc := 40) C0 hr hH hS dX10_keep_40 rfl
