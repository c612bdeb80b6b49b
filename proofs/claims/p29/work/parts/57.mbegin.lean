set_option maxRecDepth 20000 in
theorem cw_X10_296 : CwV RX10 296 yX10_topmost cX10_topmost 1 (some .int) 0 := ⟨wm 1396 (by decide +kernel) rfl, wm 1398 (by decide +kernel) rfl, wms 52 (by decide +kernel) rfl, wm 11 (by decide +kernel) rfl, wm 1399 rfl rfl, by decide +kernel⟩
set_option maxRecDepth 20000 in
theorem cw_X10_299 : CwV RX10 299 yX10_newBlock cX10_newBlock 6 (some .int) 4 := ⟨wm 1388 (by decide +kernel) rfl, wm 1390 (by decide +kernel) rfl, wms 50 (by decide +kernel) rfl, wm 11 (by decide +kernel) rfl, wm 1391 rfl rfl, by decide +kernel⟩
set_option maxRecDepth 20000 in
theorem cw_X10_303 : CwV RX10 303 yX10_newItem cX10_newItem 3 none 1 := ⟨wm 1424 (by decide +kernel) rfl, wm 1426 (by decide +kernel) rfl, wms 59 (by decide +kernel) rfl, wm 11 (by decide +kernel) rfl, wm 1427 rfl rfl, by decide +kernel⟩
theorem dX10_goOn_0 : decode cX10_goOn 0 = .ok (.aload_n 0, 1) := by decide +kernel
theorem dX10_goOn_1 : decode cX10_goOn 1 = .ok (.getfield 64, 3) := by decide +kernel
theorem dX10_goOn_4 : decode cX10_goOn 4 = .ok (.iload_n 1, 1) := by decide +kernel
theorem dX10_goOn_5 : decode cX10_goOn 5 = .ok (.aload_n 0, 1) := by decide +kernel
theorem dX10_goOn_6 : decode cX10_goOn 6 = .ok (.getfield 91, 3) := by decide +kernel
theorem dX10_goOn_9 : decode cX10_goOn 9 = .ok (.aload_n 0, 1) := by decide +kernel
theorem dX10_goOn_10 : decode cX10_goOn 10 = .ok (.invokevirtual 296, 3) := by decide +kernel
theorem dX10_goOn_13 : decode cX10_goOn 13 = .ok (.iaload, 1) := by decide +kernel
theorem dX10_goOn_14 : decode cX10_goOn 14 = .ok (.iastore, 1) := by decide +kernel
theorem dX10_goOn_15 : decode cX10_goOn 15 = .ok (.aload_n 0, 1) := by decide +kernel
theorem dX10_goOn_16 : decode cX10_goOn 16 = .ok (.aload_n 0, 1) := by decide +kernel
theorem dX10_goOn_17 : decode cX10_goOn 17 = .ok (.getfield 64, 3) := by decide +kernel
theorem dX10_goOn_20 : decode cX10_goOn 20 = .ok (.iload_n 1, 1) := by decide +kernel
theorem dX10_goOn_21 : decode cX10_goOn 21 = .ok (.iaload, 1) := by decide +kernel
theorem dX10_goOn_22 : decode cX10_goOn 22 = .ok (.iload_n 1, 1) := by decide +kernel
theorem dX10_goOn_23 : decode cX10_goOn 23 = .ok (.invokevirtual 284, 3) := by decide +kernel
theorem dX10_goOn_26 : decode cX10_goOn 26 = .ok (.return_, 1) := by decide +kernel
theorem dX10_begin_0 : decode cX10_begin 0 = .ok (.aload_n 0, 1) := by decide +kernel
theorem dX10_begin_1 : decode cX10_begin 1 = .ok (.iload_n 1, 1) := by decide +kernel
theorem dX10_begin_2 : decode cX10_begin 2 = .ok (.iload_n 2, 1) := by decide +kernel
theorem dX10_begin_3 : decode cX10_begin 3 = .ok (.aload_n 0, 1) := by decide +kernel
theorem dX10_begin_4 : decode cX10_begin 4 = .ok (.getfield 91, 3) := by decide +kernel
theorem dX10_begin_7 : decode cX10_begin 7 = .ok (.aload_n 0, 1) := by decide +kernel
theorem dX10_begin_8 : decode cX10_begin 8 = .ok (.invokevirtual 296, 3) := by decide +kernel
theorem dX10_begin_11 : decode cX10_begin 11 = .ok (.iaload, 1) := by decide +kernel
theorem dX10_begin_12 : decode cX10_begin 12 = .ok (.iload_n 3, 1) := by decide +kernel
theorem dX10_begin_13 : decode cX10_begin 13 = .ok (.invokevirtual 299, 3) := by decide +kernel
theorem dX10_begin_16 : decode cX10_begin 16 = .ok (.istore 4, 2) := by decide +kernel
theorem dX10_begin_18 : decode cX10_begin 18 = .ok (.aload_n 0, 1) := by decide +kernel
theorem dX10_begin_19 : decode cX10_begin 19 = .ok (.getfield 118, 3) := by decide +kernel
theorem dX10_begin_22 : decode cX10_begin 22 = .ok (.aload_n 0, 1) := by decide +kernel
theorem dX10_begin_23 : decode cX10_begin 23 = .ok (.getfield 293, 3) := by decide +kernel
theorem dX10_begin_26 : decode cX10_begin 26 = .ok (.iload 4, 2) := by decide +kernel
theorem dX10_begin_28 : decode cX10_begin 28 = .ok (.iastore, 1) := by decide +kernel
theorem dX10_begin_29 : decode cX10_begin 29 = .ok (.aload_n 0, 1) := by decide +kernel
theorem dX10_begin_30 : decode cX10_begin 30 = .ok (.dup, 1) := by decide +kernel
theorem dX10_begin_31 : decode cX10_begin 31 = .ok (.getfield 293, 3) := by decide +kernel
theorem dX10_begin_34 : decode cX10_begin 34 = .ok (.iconst 1, 1) := by decide +kernel
theorem dX10_begin_35 : decode cX10_begin 35 = .ok (.iadd, 1) := by decide +kernel
theorem dX10_begin_36 : decode cX10_begin 36 = .ok (.putfield 293, 3) := by decide +kernel
theorem dX10_begin_39 : decode cX10_begin 39 = .ok (.aload_n 0, 1) := by decide +kernel
theorem dX10_begin_40 : decode cX10_begin 40 = .ok (.iload 4, 2) := by decide +kernel
theorem dX10_begin_42 : decode cX10_begin 42 = .ok (.invokevirtual 303, 3) := by decide +kernel
theorem dX10_begin_45 : decode cX10_begin 45 = .ok (.return_, 1) := by decide +kernel
set_option maxHeartbeats 4000000 in
set_option maxRecDepth 100000 in
theorem m_goOn (l : Launch) (D : va_G) (tA : Nat → ClassId) (b : Nat) (i F : Nat → Nat → Int32) (G : Nat → Nat → Int64) (x : Int32) (k : Int) (hT : TMm i F) (hP : PMm k i F) (hk : 1 < (i 78 51).toInt ∨ 0 < k) (hx6 : 0 ≤ x.toInt ∧ x.toInt < 600) (hpm : (i 78 47).toInt < 1802) : xMV l yX10_goOn cX10_goOn 2 none 1 23 D tA b 78 52 i F G [.ref (b + 78), .int x] (fun u => RO [47] [95, 108, 109, 110, 111, 112] i F G u ∧ TMm u.1 u.2.1 ∧ (u.1 78 47).toInt = (i 78 47).toInt + 1) := by
  refine xstart RX10 rfl (by decide) (Nat.le_of_ble_eq_true rfl) ?_
  intro p e s m below meth c ls C0 hr hH hS hl
  have hl : lv_has ls 2 [(0, .ref (b + 78)), (1, .int x)] := hl
  have rg_x := fb_rng x
  have hTL := TMm.lin hT
  have hPl := hP.1
  refine lv_aload_n (pc := 0) C0.1 C0.2.1 dX10_goOn_0 rfl (lv_at hl 0 rfl) ?_
  refine xget (pc := 1) C0 hH 78 27 clX10 ⟨Nat.le_of_ble_eq_true rfl, Nat.le_of_ble_eq_true rfl⟩ ⟨rfl, rfl⟩ (Nat.le_of_ble_eq_true rfl) fl_X10_64 (v := .ref (b + 95)) rfl dX10_goOn_1 ?_
  refine lv_iload_n (pc := 4) C0.1 C0.2.1 dX10_goOn_4 rfl (lv_at hl 1 rfl) ?_
  refine lv_aload_n (pc := 5) C0.1 C0.2.1 dX10_goOn_5 rfl (lv_at hl 0 rfl) ?_
  refine xget (pc := 6) C0 hH 78 39 clX10 ⟨Nat.le_of_ble_eq_true rfl, Nat.le_of_ble_eq_true rfl⟩ ⟨rfl, rfl⟩ (Nat.le_of_ble_eq_true rfl) fl_X10_91 (v := .ref (b + 104)) rfl dX10_goOn_6 ?_
  refine lv_aload_n (pc := 9) C0.1 C0.2.1 dX10_goOn_9 rfl (lv_at hl 0 rfl) ?_
  refine xcVI (pc := 10) 78 [] (m_topmost l D tA b i F G k hT hP) C0 hH hS clX10 rfl ⟨⟨Nat.le_of_ble_eq_true rfl, Nat.le_of_ble_eq_true rfl⟩, rfl, rfl⟩ cw_X10_296 rfl ⟨Nat.le_of_ble_eq_true rfl, Nat.le_of_ble_eq_true rfl⟩ hl.1 rfl (Nat.le_of_ble_eq_true rfl) dX10_goOn_10 ⟨Nat.le_of_ble_eq_true rfl, Nat.le_of_ble_eq_true rfl⟩ (fun r1 ir1 Fr1 Gr1 _ locs hp hH hS => ?_)
  obtain ⟨hu, htpr1, htqr1, htzr1⟩ := hp
  cases hu
  have hBtr1 := TMm.bt hT (x := r1) (show 0 ≤ Int32.toInt r1 ∧ Int32.toInt r1 < Int32.toInt (i 78 32) from htpr1)
  refine xiald (pc := 13) (N := 1202) C0 hH 104 ⟨Nat.le_of_ble_eq_true rfl, Nat.le_of_ble_eq_true rfl⟩ ⟨rfl, rfl⟩ (vI (by omega) (by omega)) dX10_goOn_13 ?_
  refine xiast (pc := 14) (N := 600) C0 (Nat.le_of_ble_eq_true rfl) hH hS 95 ⟨Nat.le_of_ble_eq_true rfl, Nat.le_of_ble_eq_true rfl⟩ ⟨rfl, rfl⟩ (vI (by omega) (by omega)) dX10_goOn_14 (fun _ locs hH hS _ => ?_)
  have hH : Hd D tA b 78 52 zz i (va_up F 95 (upd (F 95) (Int32.toNatClampNeg x) (F 104 (Int32.toNatClampNeg r1)))) G _ := hH
  have hv9 := htqr1 hk
  have hT : TMm i (va_up F 95 (upd (F 95) (Int32.toNatClampNeg x) (F 104 (Int32.toNatClampNeg r1)))) := TMm.io hT (show 0 ≤ Int32.toInt (F 104 (Int32.toNatClampNeg r1)) ∧ Int32.toInt (F 104 (Int32.toNatClampNeg r1)) < 1202 from by omega)
  refine lv_aload_n (pc := 15) C0.1 C0.2.1 dX10_goOn_15 rfl (lv_at hl 0 rfl) ?_
  refine lv_aload_n (pc := 16) C0.1 C0.2.1 dX10_goOn_16 rfl (lv_at hl 0 rfl) ?_
  refine xget (pc := 17) C0 hH 78 27 clX10 ⟨Nat.le_of_ble_eq_true rfl, Nat.le_of_ble_eq_true rfl⟩ ⟨rfl, rfl⟩ (Nat.le_of_ble_eq_true rfl) fl_X10_64 (v := .ref (b + 95)) rfl dX10_goOn_17 ?_
  refine lv_iload_n (pc := 20) C0.1 C0.2.1 dX10_goOn_20 rfl (lv_at hl 1 rfl) ?_
  refine xiald (pc := 21) (N := 600) C0 hH 95 ⟨Nat.le_of_ble_eq_true rfl, Nat.le_of_ble_eq_true rfl⟩ ⟨rfl, rfl⟩ (vI (by omega) (by omega)) dX10_goOn_21 ?_
  refine lv_topi (fun q2 eq2 => ?_)
  obtain rfl : q2 = upd (F 95) (Int32.toNatClampNeg x) (F 104 (Int32.toNatClampNeg r1)) (Int32.toNatClampNeg x) := eq2.trans rfl
  refine lv_topi (fun q3 eq3 => ?_)
  obtain rfl : q3 = (F 104 (Int32.toNatClampNeg r1)) := by rw [eq3]; exact upd_s
  refine lv_iload_n (pc := 22) C0.1 C0.2.1 dX10_goOn_22 rfl (lv_at hl 1 rfl) ?_
  refine xcVV (pc := 23) 78 [.int (F 104 (Int32.toNatClampNeg r1)), .int x] (m_hang l D tA b i (va_up F 95 (upd (F 95) (Int32.toNatClampNeg x) (F 104 (Int32.toNatClampNeg r1)))) G (F 104 (Int32.toNatClampNeg r1)) x hT (show 0 ≤ Int32.toInt (F 104 (Int32.toNatClampNeg r1)) ∧ Int32.toInt (F 104 (Int32.toNatClampNeg r1)) < Int32.toInt (i 78 40) from by omega) (show Int32.toInt (i 78 47) < 1802 from by omega) (Or.inl (by omega))) C0 hH hS clX10 rfl ⟨⟨Nat.le_of_ble_eq_true rfl, Nat.le_of_ble_eq_true rfl⟩, rfl, rfl⟩ cw_X10_284 rfl ⟨Nat.le_of_ble_eq_true rfl, Nat.le_of_ble_eq_true rfl⟩ hl.1 rfl (Nat.le_of_ble_eq_true rfl) dX10_goOn_23 ⟨Nat.le_of_ble_eq_true rfl, Nat.le_of_ble_eq_true rfl⟩ (fun ir4 Fr4 Gr4 _ locs hp hH hS => ?_)
  obtain ⟨honr4, hT, hptr4⟩ := hp
  have hT : TMm ir4 Fr4 := hT
  have hptr4 : (ir4 78 47).toInt = Int32.toInt (i 78 47) + 1 := hptr4
  have hTL := TMm.lin hT
  exact xvret (pc := 26) C0 hr hH hS dX10_goOn_26 ⟨(RO.tr (RO.f RO.rf (by decide)) honr4 (by decide) (by decide)), hT, hptr4⟩
set_option maxHeartbeats 4000000 in
set_option maxRecDepth 100000 in
theorem m_begin (l : Launch) (D : va_G) (tA : Nat → ClassId) (b : Nat) (i F : Nat → Nat → Int32) (G : Nat → Nat → Int64) (x y z : Int32) (k : Int) (hT : TMm i F) (hP : PMm k i F) (hk0 : 0 < k) (hz : 0 ≤ z.toInt ∧ z.toInt < 600) (hbm : (i 78 32).toInt < 1202) (him : (i 78 40).toInt < 1202) (hpm : (i 78 47).toInt < 1802) : xMV l yX10_begin cX10_begin 5 none 2 48 D tA b 78 52 i F G [.ref (b + 78), .int x, .int y, .int z] (fun u => RO [32, 40, 47, 51] [98, 99, 100, 101, 102, 103, 104, 105, 106, 107, 108, 109, 110, 111, 112, 113] i F G u ∧ TMm u.1 u.2.1 ∧ PMm k u.1 u.2.1 ∧ (u.1 78 32).toInt = (i 78 32).toInt + 1 ∧ (u.1 78 40).toInt = (i 78 40).toInt + 1 ∧ (u.1 78 47).toInt ≤ (i 78 47).toInt + 1) := by
  refine xstart RX10 rfl (by decide) (Nat.le_of_ble_eq_true rfl) ?_
  intro p e s m below meth c ls C0 hr hH hS hl
  have hl : lv_has ls 5 [(0, .ref (b + 78)), (1, .int x), (2, .int y), (3, .int z)] := hl
  have rg_x := fb_rng x
  have rg_y := fb_rng y
  have rg_z := fb_rng z
  have hTL := TMm.lin hT
  have hPl := hP.1
  refine lv_aload_n (pc := 0) C0.1 C0.2.1 dX10_begin_0 rfl (lv_at hl 0 rfl) ?_
  refine lv_iload_n (pc := 1) C0.1 C0.2.1 dX10_begin_1 rfl (lv_at hl 1 rfl) ?_
  refine lv_iload_n (pc := 2) C0.1 C0.2.1 dX10_begin_2 rfl (lv_at hl 2 rfl) ?_
  refine lv_aload_n (pc := 3) C0.1 C0.2.1 dX10_begin_3 rfl (lv_at hl 0 rfl) ?_
  refine xget (pc := 4) C0 hH 78 39 clX10 ⟨Nat.le_of_ble_eq_true rfl, Nat.le_of_ble_eq_true rfl⟩ ⟨rfl, rfl⟩ (Nat.le_of_ble_eq_true rfl) fl_X10_91 (v := .ref (b + 104)) rfl dX10_begin_4 ?_
  refine lv_aload_n (pc := 7) C0.1 C0.2.1 dX10_begin_7 rfl (lv_at hl 0 rfl) ?_
  refine xcVI (pc := 8) 78 [] (m_topmost l D tA b i F G k hT hP) C0 hH hS clX10 rfl ⟨⟨Nat.le_of_ble_eq_true rfl, Nat.le_of_ble_eq_true rfl⟩, rfl, rfl⟩ cw_X10_296 rfl ⟨Nat.le_of_ble_eq_true rfl, Nat.le_of_ble_eq_true rfl⟩ hl.1 rfl (Nat.le_of_ble_eq_true rfl) dX10_begin_8 ⟨Nat.le_of_ble_eq_true rfl, Nat.le_of_ble_eq_true rfl⟩ (fun r1 ir1 Fr1 Gr1 _ locs hp hH hS => ?_)
  obtain ⟨hu, htpr1, htqr1, htzr1⟩ := hp
  cases hu
  have hBtr1 := TMm.bt hT (x := r1) (show 0 ≤ Int32.toInt r1 ∧ Int32.toInt r1 < Int32.toInt (i 78 32) from htpr1)
  refine xiald (pc := 11) (N := 1202) C0 hH 104 ⟨Nat.le_of_ble_eq_true rfl, Nat.le_of_ble_eq_true rfl⟩ ⟨rfl, rfl⟩ (vI (by omega) (by omega)) dX10_begin_11 ?_
  refine lv_iload_n (pc := 12) C0.1 C0.2.1 dX10_begin_12 rfl (lv_at hl 3 rfl) ?_
  have hv9 := htqr1 (Or.inr hk0)
  refine xcVI (pc := 13) 78 [.int x, .int y, .int (F 104 (Int32.toNatClampNeg r1)), .int z] (m_newBlock l D tA b i F G x y (F 104 (Int32.toNatClampNeg r1)) z hT (show Int32.toInt (i 78 32) < 1202 from by omega) (show Int32.toInt (i 78 47) < 1802 from by omega) (show (Int32.toInt (i 78 32) = 0 ∧ Int32.toInt (F 104 (Int32.toNatClampNeg r1)) = -9) ∨ (1 ≤ Int32.toInt (i 78 32) ∧ (0 ≤ Int32.toInt (F 104 (Int32.toNatClampNeg r1)) ∧ Int32.toInt (F 104 (Int32.toNatClampNeg r1)) < Int32.toInt (i 78 40)) ∧ 0 ≤ Int32.toInt z ∧ Int32.toInt z < 600) from by omega)) C0 hH hS clX10 rfl ⟨⟨Nat.le_of_ble_eq_true rfl, Nat.le_of_ble_eq_true rfl⟩, rfl, rfl⟩ cw_X10_299 rfl ⟨Nat.le_of_ble_eq_true rfl, Nat.le_of_ble_eq_true rfl⟩ hl.1 rfl (Nat.le_of_ble_eq_true rfl) dX10_begin_13 ⟨Nat.le_of_ble_eq_true rfl, Nat.le_of_ble_eq_true rfl⟩ (fun r2 ir2 Fr2 Gr2 _ locs hp hH hS => ?_)
  obtain ⟨honr2, hT, h32r2, h47r2, hrbr2, e98r2, e99r2, e102r2⟩ := hp
  have hT : TMm ir2 Fr2 := hT
  have h32r2 : (ir2 78 32).toInt = Int32.toInt (i 78 32) + 1 := h32r2
  have h47r2 : Int32.toInt (i 78 47) ≤ (ir2 78 47).toInt ∧ (ir2 78 47).toInt ≤ Int32.toInt (i 78 47) + 1 := h47r2
  have hrIr2 : Int32.toInt r2 = Int32.toInt (i 78 32) := congrArg Int32.toInt hrbr2
  have hTL := TMm.lin hT
  have ek_40r2 : Int32.toInt (ir2 78 40) = Int32.toInt (i 78 40) := congrArg Int32.toInt (honr2.1 78 40 (Or.inr (by decide)))
  have ek_51r2 : Int32.toInt (ir2 78 51) = Int32.toInt (i 78 51) := congrArg Int32.toInt (honr2.1 78 51 (Or.inr (by decide)))
  refine lv_istore (pc := 16) (lv' := [(4, .int r2), (0, .ref (b + 78)), (1, .int x), (2, .int y), (3, .int z)]) C0.1 C0.2.1 dX10_begin_16 hl (by decide) rfl (fun ls hl => ?_)
  refine lv_aload_n (pc := 18) C0.1 C0.2.1 dX10_begin_18 rfl (lv_at hl 1 rfl) ?_
  refine xget (pc := 19) C0 hH 78 50 clX10 ⟨Nat.le_of_ble_eq_true rfl, Nat.le_of_ble_eq_true rfl⟩ ⟨rfl, rfl⟩ (Nat.le_of_ble_eq_true rfl) fl_X10_118 (v := .ref (b + 113)) rfl dX10_begin_19 ?_
  refine lv_aload_n (pc := 22) C0.1 C0.2.1 dX10_begin_22 rfl (lv_at hl 1 rfl) ?_
  refine xget (pc := 23) C0 hH 78 51 clX10 ⟨Nat.le_of_ble_eq_true rfl, Nat.le_of_ble_eq_true rfl⟩ ⟨rfl, rfl⟩ (Nat.le_of_ble_eq_true rfl) fl_X10_293 (v := .int (ir2 78 51)) rfl dX10_begin_23 ?_
  refine lv_iload (pc := 26) C0.1 C0.2.1 dX10_begin_26 (lv_at hl 0 rfl) ?_
  refine xiast (pc := 28) (N := 1202) C0 (Nat.le_of_ble_eq_true rfl) hH hS 113 ⟨Nat.le_of_ble_eq_true rfl, Nat.le_of_ble_eq_true rfl⟩ ⟨rfl, rfl⟩ (vI (by omega) (by omega)) dX10_begin_28 (fun _ locs hH hS _ => ?_)
  have hH : Hd D tA b 78 52 zz ir2 (va_up Fr2 113 (upd (Fr2 113) (Int32.toNatClampNeg (ir2 78 51)) r2)) Gr2 _ := hH
  refine lv_aload_n (pc := 29) C0.1 C0.2.1 dX10_begin_29 rfl (lv_at hl 1 rfl) ?_
  refine lv_dup (pc := 30) C0.1 C0.2.1 dX10_begin_30 rfl ?_
  refine xget (pc := 31) C0 hH 78 51 clX10 ⟨Nat.le_of_ble_eq_true rfl, Nat.le_of_ble_eq_true rfl⟩ ⟨rfl, rfl⟩ (Nat.le_of_ble_eq_true rfl) fl_X10_293 (v := .int (ir2 78 51)) rfl dX10_begin_31 ?_
  refine lv_iconst (pc := 34) (v := 1) C0.1 C0.2.1 dX10_begin_34 (by decide) ?_
  have : Int32.toInt 1 = 1 := rfl
  refine lv_iadd (pc := 35) C0.1 C0.2.1 dX10_begin_35 ?_
  refine lv_topi (fun x3 ex3 => ?_)
  have hx3 : Int32.toInt x3 = Int32.toInt (ir2 78 51) + Int32.toInt 1 := by rw [ex3]; exact fb_addI (by omega) (by omega)
  refine xputI (pc := 36) C0 (Nat.le_of_ble_eq_true rfl) hH hS 78 51 clX10 ⟨Nat.le_of_ble_eq_true rfl, Nat.le_of_ble_eq_true rfl⟩ ⟨rfl, rfl⟩ ⟨Nat.le_of_ble_eq_true rfl, rfl, rfl⟩ fl_X10_293 (x := x3) ⟨rfl, rfl⟩ dX10_begin_36 (fun _ locs hH hS _ => ?_)
  have hH : Hd D tA b 78 52 zz (up2 ir2 78 51 x3) (va_up Fr2 113 (upd (Fr2 113) (Int32.toNatClampNeg (ir2 78 51)) r2)) Gr2 _ := hH
  refine lv_aload_n (pc := 39) C0.1 C0.2.1 dX10_begin_39 rfl (lv_at hl 1 rfl) ?_
  refine lv_iload (pc := 40) C0.1 C0.2.1 dX10_begin_40 (lv_at hl 0 rfl) ?_
  refine xcVV (pc := 42) 78 [.int r2] (m_newItem l D tA b (up2 ir2 78 51 x3) (va_up Fr2 113 (upd (Fr2 113) (Int32.toNatClampNeg (ir2 78 51)) r2)) Gr2 r2 hT (show 0 ≤ Int32.toInt r2 ∧ Int32.toInt r2 < Int32.toInt (ir2 78 32) from by omega) (show Int32.toInt (ir2 78 40) < 1202 from by omega)) C0 hH hS clX10 rfl ⟨⟨Nat.le_of_ble_eq_true rfl, Nat.le_of_ble_eq_true rfl⟩, rfl, rfl⟩ cw_X10_303 rfl ⟨Nat.le_of_ble_eq_true rfl, Nat.le_of_ble_eq_true rfl⟩ hl.1 rfl (Nat.le_of_ble_eq_true rfl) dX10_begin_42 ⟨Nat.le_of_ble_eq_true rfl, Nat.le_of_ble_eq_true rfl⟩ (fun ir4 Fr4 Gr4 _ locs hp hH hS => ?_)
  obtain ⟨honr4, hT, h40r4, hmor4, hn1r4⟩ := hp
  have hT : TMm ir4 Fr4 := hT
  have h40r4 : (ir4 78 40).toInt = Int32.toInt (ir2 78 40) + 1 := h40r4
  have hTL := TMm.lin hT
  have ek_32r4 : Int32.toInt (ir4 78 32) = Int32.toInt (ir2 78 32) := congrArg Int32.toInt (honr4.1 78 32 (Or.inr (by decide)))
  have ek_47r4 : Int32.toInt (ir4 78 47) = Int32.toInt (ir2 78 47) := congrArg Int32.toInt (honr4.1 78 47 (Or.inr (by decide)))
  have ek_51r4 : Int32.toInt (ir4 78 51) = Int32.toInt x3 := congrArg Int32.toInt (honr4.1 78 51 (Or.inr (by decide)))
  exact xvret (pc := 45) C0 hr hH hS dX10_begin_45 ⟨(RO.tr (RO.f (RO.i (RO.tr RO.rf honr2 (by decide) (by decide)) (by decide)) (by decide)) honr4 (by decide) (by decide)), hT, PMm.bg (i1 := ir2) (F1 := Fr2) (t := x3) (b := r2) hP (by omega) h32r2 hrbr2 e98r2 e99r2 e102r2 (honr2.2 113 (by decide)).1 (honr2.1 78 51 (Or.inr (by decide))) (by omega) (honr4.1 78 32 (Or.inr (by decide))) (honr4.1 78 51 (Or.inr (by decide))) ((honr4.2 113 (by decide)).1) ((honr4.2 98 (by decide)).1) ((honr4.2 99 (by decide)).1) hmor4 hn1r4, (show Int32.toInt (ir4 78 32) = _ from by omega), (show Int32.toInt (ir4 78 40) = _ from by omega), (show Int32.toInt (ir4 78 47) ≤ _ from by omega)⟩
