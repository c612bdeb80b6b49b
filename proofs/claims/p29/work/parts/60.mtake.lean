set_option maxRecDepth 20000 in
theorem cw_X10_325 : CwV RX10 325 yX10_endsLet cX10_endsLet 4 (some .boolean) 1 := ⟨wm 1432 (by decide +kernel) rfl, wm 1434 (by decide +kernel) rfl, wms 61 (by decide +kernel) rfl, wm 11 (by decide +kernel) rfl, wm 1435 rfl rfl, by decide +kernel⟩
set_option maxRecDepth 20000 in
theorem cw_X10_328 : CwV RX10 328 yX10_place cX10_place 5 none 1 := ⟨wm 1436 (by decide +kernel) rfl, wm 1438 (by decide +kernel) rfl, wms 62 (by decide +kernel) rfl, wm 11 (by decide +kernel) rfl, wm 1439 rfl rfl, by decide +kernel⟩
set_option maxRecDepth 20000 in
theorem cw_X10_323 : CwV RX10 323 yX10_opens cX10_opens 6 (some .boolean) 2 := ⟨wm 1408 (by decide +kernel) rfl, wm 1410 (by decide +kernel) rfl, wms 55 (by decide +kernel) rfl, wm 11 (by decide +kernel) rfl, wm 1411 rfl rfl, by decide +kernel⟩
theorem dX10_take_43 : decode cX10_take 43 = .ok (.aload_n 0, 1) := by decide +kernel
theorem dX10_take_44 : decode cX10_take 44 = .ok (.getfield 245, 3) := by decide +kernel
theorem dX10_take_47 : decode cX10_take 47 = .ok (.ifCond .ne 29, 3) := by decide +kernel
theorem dX10_take_76 : decode cX10_take 76 = .ok (.return_, 1) := by decide +kernel
theorem dX10_take_50 : decode cX10_take 50 = .ok (.aload_n 0, 1) := by decide +kernel
theorem dX10_take_51 : decode cX10_take 51 = .ok (.iload_n 1, 1) := by decide +kernel
theorem dX10_take_52 : decode cX10_take 52 = .ok (.iconst 1, 1) := by decide +kernel
theorem dX10_take_53 : decode cX10_take 53 = .ok (.invokevirtual 310, 3) := by decide +kernel
theorem dX10_take_56 : decode cX10_take 56 = .ok (.bipush (-9), 2) := by decide +kernel
theorem dX10_take_58 : decode cX10_take 58 = .ok (.if_icmp .eq 18, 3) := by decide +kernel
theorem dX10_take_61 : decode cX10_take 61 = .ok (.aload_n 0, 1) := by decide +kernel
theorem dX10_take_62 : decode cX10_take 62 = .ok (.iconst 4, 1) := by decide +kernel
theorem dX10_take_63 : decode cX10_take 63 = .ok (.aload_n 0, 1) := by decide +kernel
theorem dX10_take_64 : decode cX10_take 64 = .ok (.getfield 76, 3) := by decide +kernel
theorem dX10_take_67 : decode cX10_take 67 = .ok (.aload_n 0, 1) := by decide +kernel
theorem dX10_take_68 : decode cX10_take 68 = .ok (.invokevirtual 296, 3) := by decide +kernel
theorem dX10_take_71 : decode cX10_take 71 = .ok (.iaload, 1) := by decide +kernel
theorem dX10_take_72 : decode cX10_take 72 = .ok (.iload_n 1, 1) := by decide +kernel
theorem dX10_take_73 : decode cX10_take 73 = .ok (.invokevirtual 316, 3) := by decide +kernel
theorem dX10_take_19 : decode cX10_take 19 = .ok (.aload_n 0, 1) := by decide +kernel
theorem dX10_take_20 : decode cX10_take 20 = .ok (.getfield 245, 3) := by decide +kernel
theorem dX10_take_23 : decode cX10_take 23 = .ok (.ifCond .ne 20, 3) := by decide +kernel
theorem dX10_take_26 : decode cX10_take 26 = .ok (.iload_n 3, 1) := by decide +kernel
theorem dX10_take_27 : decode cX10_take 27 = .ok (.ifCond .ne 16, 3) := by decide +kernel
theorem dX10_take_30 : decode cX10_take 30 = .ok (.aload_n 0, 1) := by decide +kernel
theorem dX10_take_31 : decode cX10_take 31 = .ok (.iload_n 1, 1) := by decide +kernel
theorem dX10_take_32 : decode cX10_take 32 = .ok (.invokevirtual 325, 3) := by decide +kernel
theorem dX10_take_35 : decode cX10_take 35 = .ok (.ifCond .ne 8, 3) := by decide +kernel
theorem dX10_take_38 : decode cX10_take 38 = .ok (.aload_n 0, 1) := by decide +kernel
theorem dX10_take_39 : decode cX10_take 39 = .ok (.iload_n 1, 1) := by decide +kernel
theorem dX10_take_40 : decode cX10_take 40 = .ok (.invokevirtual 328, 3) := by decide +kernel
theorem dX10_take_0 : decode cX10_take 0 = .ok (.iload_n 2, 1) := by decide +kernel
theorem dX10_take_1 : decode cX10_take 1 = .ok (.ifCond .le 16, 3) := by decide +kernel
theorem dX10_take_17 : decode cX10_take 17 = .ok (.iconst 0, 1) := by decide +kernel
theorem dX10_take_18 : decode cX10_take 18 = .ok (.istore_n 3, 1) := by decide +kernel
theorem dX10_take_4 : decode cX10_take 4 = .ok (.aload_n 0, 1) := by decide +kernel
theorem dX10_take_5 : decode cX10_take 5 = .ok (.iload_n 2, 1) := by decide +kernel
theorem dX10_take_6 : decode cX10_take 6 = .ok (.iload_n 1, 1) := by decide +kernel
theorem dX10_take_7 : decode cX10_take 7 = .ok (.invokevirtual 323, 3) := by decide +kernel
theorem dX10_take_10 : decode cX10_take 10 = .ok (.ifCond .eq 7, 3) := by decide +kernel
theorem dX10_take_13 : decode cX10_take 13 = .ok (.iconst 1, 1) := by decide +kernel
theorem dX10_take_14 : decode cX10_take 14 = .ok (.goto 4, 3) := by decide +kernel
set_option maxHeartbeats 4000000 in
set_option maxRecDepth 100000 in
theorem m_take (l : Launch) (D : va_G) (tA : Nat → ClassId) (b : Nat) (i F : Nat → Nat → Int32) (G : Nat → Nat → Int64) (x y : Int32) (hT : TMm i F) (hP : PMm x.toInt i F) (hTK : TKm i F) (hPI : PLI i) (hBR : BR i) (hk1 : 0 < x.toInt ∨ (i 78 51).toInt = 1) (hx : 0 ≤ x.toInt ∧ x.toInt < (i 78 19).toInt) (hd : 0 < x.toInt ∨ F 93 (Int32.toNatClampNeg x) = 1) (hhw : 0 < y.toInt → 1 ≤ x.toInt) (hbm : (i 78 32).toInt + 2 ≤ 1202) (him : (i 78 40).toInt + 2 ≤ 1202) (hpm : (i 78 47).toInt + 3 ≤ 1802) (hw0 : (i 78 30).toInt = 0) : xMV l yX10_take cX10_take 4 none 4 97 D tA b 78 52 i F G [.ref (b + 78), .int x, .int y] (fun u => RO [30, 31, 32, 40, 47, 51] [95, 98, 99, 100, 101, 102, 103, 104, 105, 106, 107, 108, 109, 110, 111, 112, 113] i F G u ∧ TMm u.1 u.2.1 ∧ PLI u.1 ∧ ((u.1 78 30).toInt = 0 → PMm 1 u.1 u.2.1) ∧ ((u.1 78 32).toInt ≤ (i 78 32).toInt + 2 ∧ (u.1 78 40).toInt ≤ (i 78 40).toInt + 2 ∧ (u.1 78 47).toInt ≤ (i 78 47).toInt + 3) ∧ (i 78 32).toInt ≤ (u.1 78 32).toInt) := by
  refine xstart RX10 rfl (by decide) (Nat.le_of_ble_eq_true rfl) ?_
  intro p e s m below meth c ls C0 hr hH hS hl
  have hl : lv_has ls 4 [(0, .ref (b + 78)), (1, .int x), (2, .int y)] := hl
  have rg_x := fb_rng x
  have rg_y := fb_rng y
  have hTL := TMm.lin hT
  have hPl := hP.1
  have hTKl := hTK.1
  have L43 : ∀ (d : Nat) (iv Fv : Nat → Nat → Int32) (Gv : Nat → Nat → Int64) (H : Heap) (locs : List Loc) (ls : Array Slot), (RO [30, 31, 32, 40, 47, 51] [95, 98, 99, 100, 101, 102, 103, 104, 105, 106, 107, 108, 109, 110, 111, 112, 113] i F G (iv, Fv, Gv)) → (TMm iv Fv) → (PLI iv) → ((iv 78 30).toInt = 0 → PMm 1 iv Fv) → ((iv 78 32).toInt ≤ (i 78 32).toInt + 1 ∧ (iv 78 40).toInt ≤ (i 78 40).toInt + 1 ∧ (iv 78 47).toInt ≤ (i 78 47).toInt + 2) → ((i 78 32).toInt ≤ (iv 78 32).toInt) → Hd D tA b 78 52 zz iv Fv Gv H → va_S (xA b 78 52) s.heap H locs → lv_has ls 4 [(0, .ref (b + 78)), (1, .int x), (2, .int y)] → W p l e (xR 4 97) s m ([.ref (b + 78), .int x, .int y] : List Value).toArray below meth c H locs 0 0 (MQ below (va_Qv (fun u => RO [30, 31, 32, 40, 47, 51] [95, 98, 99, 100, 101, 102, 103, 104, 105, 106, 107, 108, 109, 110, 111, 112, 113] i F G u ∧ TMm u.1 u.2.1 ∧ PLI u.1 ∧ ((u.1 78 30).toInt = 0 → PMm 1 u.1 u.2.1) ∧ ((u.1 78 32).toInt ≤ (i 78 32).toInt + 2 ∧ (u.1 78 40).toInt ≤ (i 78 40).toInt + 2 ∧ (u.1 78 47).toInt ≤ (i 78 47).toInt + 3) ∧ (i 78 32).toInt ≤ (u.1 78 32).toInt) (xB D tA b 78 52 zz) (xA b 78 52)) ([.ref (b + 78), .int x, .int y] : List Value).toArray s 0 0 (xA b 78 52)) (F0 m 43 ls []) := by
    intro d
    intro iv Fv Gv H locs ls h1 h2 h3 h4 h5 h6 hH hS hl
    have hT := h2
    have hPI := h3
    have hTK : TKm iv Fv := TKm.ro hTK h1 (by decide)
    have hBR : BR iv := BR.ro hBR h1 (by decide)
    have ek19 : Int32.toInt (iv 78 19) = Int32.toInt (i 78 19) := congrArg Int32.toInt (h1.1 78 19 (Or.inr (by decide)))
    have hTL := TMm.lin hT
    have hTKl := hTK.1
    have e93 : Fv 93 = F 93 := (h1.2 93 (by decide)).1
    refine lv_aload_n (pc := 43) C0.1 C0.2.1 dX10_take_43 rfl (lv_at hl 0 rfl) ?_
    refine xget (pc := 44) C0 hH 78 30 clX10 ⟨Nat.le_of_ble_eq_true rfl, Nat.le_of_ble_eq_true rfl⟩ ⟨rfl, rfl⟩ (Nat.le_of_ble_eq_true rfl) fl_X10_245 (v := .int (iv 78 30)) rfl dX10_take_44 ?_
    refine lv_if_ne (pc := 47) (tgt := 76) C0.1 C0.2.1 dX10_take_47 (by decide) (fun c201 => ?_) (fun c201 => ?_)
    · have : Int32.toInt 0 = 0 := rfl
      have c201 : ¬ _ := fun q => c201 (Int32.toInt_inj.mp q)
      exact xvret (pc := 76) C0 hr hH hS dX10_take_76 ⟨h1, hT, hPI, h4, (show Int32.toInt (iv 78 32) ≤ _ ∧ Int32.toInt (iv 78 40) ≤ _ ∧ Int32.toInt (iv 78 47) ≤ _ from by omega), (show _ ≤ Int32.toInt (iv 78 32) from by omega)⟩
    · have : Int32.toInt 0 = 0 := rfl
      have c201 := congrArg Int32.toInt c201
      have hP := h4 (by have : Int32.toInt 0 = 0 := rfl; omega)
      have hPl := hP.1
      refine lv_aload_n (pc := 50) C0.1 C0.2.1 dX10_take_50 rfl (lv_at hl 0 rfl) ?_
      refine lv_iload_n (pc := 51) C0.1 C0.2.1 dX10_take_51 rfl (lv_at hl 1 rfl) ?_
      refine lv_iconst (pc := 52) (v := 1) C0.1 C0.2.1 dX10_take_52 (by decide) ?_
      refine xcVI (pc := 53) 78 [.int x, .int 1] (m_pairOf l D tA b iv Fv Gv x 1 hBR (by omega)) C0 hH hS clX10 rfl ⟨⟨Nat.le_of_ble_eq_true rfl, Nat.le_of_ble_eq_true rfl⟩, rfl, rfl⟩ cw_X10_310 rfl ⟨Nat.le_of_ble_eq_true rfl, Nat.le_of_ble_eq_true rfl⟩ hl.1 rfl (Nat.le_of_ble_eq_true rfl) dX10_take_53 ⟨Nat.le_of_ble_eq_true rfl, Nat.le_of_ble_eq_true rfl⟩ (fun r202 ir202 Fr202 Gr202 _ locs hp hH hS => ?_)
      obtain ⟨hu, hpr202⟩ := hp
      cases hu
      refine lv_bipush (pc := 56) (v := (-9)) C0.1 C0.2.1 dX10_take_56 (by decide) ?_
      refine lv_icmp_eq (pc := 58) (tgt := 76) C0.1 C0.2.1 dX10_take_58 (by decide) (fun c203 => ?_) (fun c203 => ?_)
      · have : Int32.toInt (-9) = (-9) := rfl
        have c203 := congrArg Int32.toInt c203
        exact xvret (pc := 76) C0 hr hH hS dX10_take_76 ⟨h1, hT, hPI, h4, (show Int32.toInt (iv 78 32) ≤ _ ∧ Int32.toInt (iv 78 40) ≤ _ ∧ Int32.toInt (iv 78 47) ≤ _ from by omega), (show _ ≤ Int32.toInt (iv 78 32) from by omega)⟩
      · have : Int32.toInt (-9) = (-9) := rfl
        have c203 : ¬ _ := fun q => c203 (Int32.toInt_inj.mp q)
        refine lv_aload_n (pc := 61) C0.1 C0.2.1 dX10_take_61 rfl (lv_at hl 0 rfl) ?_
        refine lv_iconst (pc := 62) (v := 4) C0.1 C0.2.1 dX10_take_62 (by decide) ?_
        refine lv_aload_n (pc := 63) C0.1 C0.2.1 dX10_take_63 rfl (lv_at hl 0 rfl) ?_
        refine xget (pc := 64) C0 hH 78 34 clX10 ⟨Nat.le_of_ble_eq_true rfl, Nat.le_of_ble_eq_true rfl⟩ ⟨rfl, rfl⟩ (Nat.le_of_ble_eq_true rfl) fl_X10_76 (v := .ref (b + 99)) rfl dX10_take_64 ?_
        refine lv_aload_n (pc := 67) C0.1 C0.2.1 dX10_take_67 rfl (lv_at hl 0 rfl) ?_
        refine xcVI (pc := 68) 78 [] (m_topmost l D tA b iv Fv Gv 1 hT hP) C0 hH hS clX10 rfl ⟨⟨Nat.le_of_ble_eq_true rfl, Nat.le_of_ble_eq_true rfl⟩, rfl, rfl⟩ cw_X10_296 rfl ⟨Nat.le_of_ble_eq_true rfl, Nat.le_of_ble_eq_true rfl⟩ hl.1 rfl (Nat.le_of_ble_eq_true rfl) dX10_take_68 ⟨Nat.le_of_ble_eq_true rfl, Nat.le_of_ble_eq_true rfl⟩ (fun r204 ir204 Fr204 Gr204 _ locs hp hH hS => ?_)
        obtain ⟨hu, htpr204, htqr204, htzr204⟩ := hp
        cases hu
        have hBtr204 := TMm.bt hT (x := r204) (show 0 ≤ Int32.toInt r204 ∧ Int32.toInt r204 < Int32.toInt (iv 78 32) from htpr204)
        refine xiald (pc := 71) (N := 1202) C0 hH 99 ⟨Nat.le_of_ble_eq_true rfl, Nat.le_of_ble_eq_true rfl⟩ ⟨rfl, rfl⟩ (vI (by omega) (by omega)) dX10_take_71 ?_
        refine lv_iload_n (pc := 72) C0.1 C0.2.1 dX10_take_72 rfl (lv_at hl 1 rfl) ?_
        refine xcVV (pc := 73) 78 [.int 4, .int (Fv 99 (Int32.toNatClampNeg r204)), .int x] (m_begin l D tA b iv Fv Gv 4 (Fv 99 (Int32.toNatClampNeg r204)) x 1 hT hP (by omega) (by omega) (show Int32.toInt (iv 78 32) < 1202 from by omega) (show Int32.toInt (iv 78 40) < 1202 from by omega) (show Int32.toInt (iv 78 47) < 1802 from by omega)) C0 hH hS clX10 rfl ⟨⟨Nat.le_of_ble_eq_true rfl, Nat.le_of_ble_eq_true rfl⟩, rfl, rfl⟩ cw_X10_316 rfl ⟨Nat.le_of_ble_eq_true rfl, Nat.le_of_ble_eq_true rfl⟩ hl.1 rfl (Nat.le_of_ble_eq_true rfl) dX10_take_73 ⟨Nat.le_of_ble_eq_true rfl, Nat.le_of_ble_eq_true rfl⟩ (fun ir205 Fr205 Gr205 _ locs hp hH hS => ?_)
        obtain ⟨honr205, hT, hP, h32r205, h40r205, h47r205⟩ := hp
        have hT : TMm ir205 Fr205 := hT
        have hP : PMm 1 ir205 Fr205 := hP
        have h32r205 : (ir205 78 32).toInt = Int32.toInt (iv 78 32) + 1 := h32r205
        have h40r205 : (ir205 78 40).toInt = Int32.toInt (iv 78 40) + 1 := h40r205
        have h47r205 : (ir205 78 47).toInt ≤ Int32.toInt (iv 78 47) + 1 := h47r205
        have hTL := TMm.lin hT
        have hPl := hP.1
        have hTK : TKm ir205 Fr205 := TKm.ro (i := iv) (F := Fv) hTK honr205 (by decide)
        have hPI : PLI ir205 := PLI.ro (i := iv) (F := Fv) hPI honr205 (by decide)
        have hBR : BR ir205 := BR.ro (i := iv) (F := Fv) hBR honr205 (by decide)
        have ek_19r205 : Int32.toInt (ir205 78 19) = Int32.toInt (iv 78 19) := congrArg Int32.toInt (honr205.1 78 19 (Or.inr (by decide)))
        have hTKl := hTK.1
        exact xvret (pc := 76) C0 hr hH hS dX10_take_76 ⟨(RO.tr h1 honr205 (by decide) (by decide)), hT, hPI, (fun _ => hP), (show Int32.toInt (ir205 78 32) ≤ _ ∧ Int32.toInt (ir205 78 40) ≤ _ ∧ Int32.toInt (ir205 78 47) ≤ _ from by omega), (show _ ≤ Int32.toInt (ir205 78 32) from by omega)⟩
  have L19 : ∀ (d : Nat) (dn : Int32) (iv Fv : Nat → Nat → Int32) (Gv : Nat → Nat → Int64) (H : Heap) (locs : List Loc) (ls : Array Slot), (RO [30, 31, 32, 40, 47, 51] [95, 98, 99, 100, 101, 102, 103, 104, 105, 106, 107, 108, 109, 110, 111, 112, 113] i F G (iv, Fv, Gv)) → (TMm iv Fv) → (PLI iv) → (PMm x.toInt iv Fv) → ((iv 78 32).toInt ≤ (i 78 32).toInt + 1 ∧ (iv 78 40).toInt ≤ (i 78 40).toInt + dn.toInt ∧ (iv 78 47).toInt ≤ (i 78 47).toInt + 1 + dn.toInt) → (dn.toInt = 0 ∨ (dn.toInt = 1 ∧ 0 < x.toInt)) → (0 < x.toInt ∨ (iv 78 51).toInt = 1) → ((i 78 32).toInt ≤ (iv 78 32).toInt) → Hd D tA b 78 52 zz iv Fv Gv H → va_S (xA b 78 52) s.heap H locs → lv_has ls 4 [(3, .int dn), (0, .ref (b + 78)), (1, .int x), (2, .int y)] → W p l e (xR 4 97) s m ([.ref (b + 78), .int x, .int y] : List Value).toArray below meth c H locs 0 0 (MQ below (va_Qv (fun u => RO [30, 31, 32, 40, 47, 51] [95, 98, 99, 100, 101, 102, 103, 104, 105, 106, 107, 108, 109, 110, 111, 112, 113] i F G u ∧ TMm u.1 u.2.1 ∧ PLI u.1 ∧ ((u.1 78 30).toInt = 0 → PMm 1 u.1 u.2.1) ∧ ((u.1 78 32).toInt ≤ (i 78 32).toInt + 2 ∧ (u.1 78 40).toInt ≤ (i 78 40).toInt + 2 ∧ (u.1 78 47).toInt ≤ (i 78 47).toInt + 3) ∧ (i 78 32).toInt ≤ (u.1 78 32).toInt) (xB D tA b 78 52 zz) (xA b 78 52)) ([.ref (b + 78), .int x, .int y] : List Value).toArray s 0 0 (xA b 78 52)) (F0 m 19 ls []) := by
    intro d
    intro dn iv Fv Gv H locs ls h1 h2 h3 h4 h5 h6 h7 h8 hH hS hl
    have rg_dn := fb_rng dn
    have hT := h2
    have hPI := h3
    have hP := h4
    have hPl := hP.1
    have hTK : TKm iv Fv := TKm.ro hTK h1 (by decide)
    have hBR : BR iv := BR.ro hBR h1 (by decide)
    have ek19 : Int32.toInt (iv 78 19) = Int32.toInt (i 78 19) := congrArg Int32.toInt (h1.1 78 19 (Or.inr (by decide)))
    have hTL := TMm.lin hT
    have hTKl := hTK.1
    have e93 : Fv 93 = F 93 := (h1.2 93 (by decide)).1
    have hd : 0 < x.toInt ∨ Fv 93 (Int32.toNatClampNeg x) = 1 := by rw [e93]; exact hd
    refine lv_aload_n (pc := 19) C0.1 C0.2.1 dX10_take_19 rfl (lv_at hl 1 rfl) ?_
    refine xget (pc := 20) C0 hH 78 30 clX10 ⟨Nat.le_of_ble_eq_true rfl, Nat.le_of_ble_eq_true rfl⟩ ⟨rfl, rfl⟩ (Nat.le_of_ble_eq_true rfl) fl_X10_245 (v := .int (iv 78 30)) rfl dX10_take_20 ?_
    refine lv_if_ne (pc := 23) (tgt := 43) C0.1 C0.2.1 dX10_take_23 (by decide) (fun c201 => ?_) (fun c201 => ?_)
    · have : Int32.toInt 0 = 0 := rfl
      have c201 : ¬ _ := fun q => c201 (Int32.toInt_inj.mp q)
      exact L43 0 iv Fv Gv _ _ _ h1 hT hPI (fun q => by first | exact PMm.one hP (by have : Int32.toInt 0 = 0 := rfl; omega) | exact absurd q (by assumption)) (show Int32.toInt (iv 78 32) ≤ _ ∧ Int32.toInt (iv 78 40) ≤ _ ∧ Int32.toInt (iv 78 47) ≤ _ from by have : Int32.toInt 0 = 0 := rfl; have : Int32.toInt 1 = 1 := rfl; omega) (show _ ≤ Int32.toInt (iv 78 32) from by omega) hH hS (lv_sub hl [1, 2, 3] rfl)
    · have : Int32.toInt 0 = 0 := rfl
      have c201 := congrArg Int32.toInt c201
      refine lv_iload_n (pc := 26) C0.1 C0.2.1 dX10_take_26 rfl (lv_at hl 0 rfl) ?_
      refine lv_if_ne (pc := 27) (tgt := 43) C0.1 C0.2.1 dX10_take_27 (by decide) (fun c202 => ?_) (fun c202 => ?_)
      · have : Int32.toInt 0 = 0 := rfl
        have c202 : ¬ _ := fun q => c202 (Int32.toInt_inj.mp q)
        exact L43 0 iv Fv Gv _ _ _ h1 hT hPI (fun q => by first | exact PMm.one hP (by have : Int32.toInt 0 = 0 := rfl; omega) | exact absurd q (by assumption)) (show Int32.toInt (iv 78 32) ≤ _ ∧ Int32.toInt (iv 78 40) ≤ _ ∧ Int32.toInt (iv 78 47) ≤ _ from by have : Int32.toInt 0 = 0 := rfl; have : Int32.toInt 1 = 1 := rfl; omega) (show _ ≤ Int32.toInt (iv 78 32) from by omega) hH hS (lv_sub hl [1, 2, 3] rfl)
      · have : Int32.toInt 0 = 0 := rfl
        have c202 := congrArg Int32.toInt c202
        refine lv_aload_n (pc := 30) C0.1 C0.2.1 dX10_take_30 rfl (lv_at hl 1 rfl) ?_
        refine lv_iload_n (pc := 31) C0.1 C0.2.1 dX10_take_31 rfl (lv_at hl 2 rfl) ?_
        refine xcVI (pc := 32) 78 [.int x] (m_endsLet l D tA b iv Fv Gv x x.toInt hT hP hBR (show 0 < x.toInt ∨ Int32.toInt (iv 78 51) = 1 from by omega) (by omega) (show Int32.toInt (iv 78 47) < 1802 from by omega)) C0 hH hS clX10 rfl ⟨⟨Nat.le_of_ble_eq_true rfl, Nat.le_of_ble_eq_true rfl⟩, rfl, rfl⟩ cw_X10_325 rfl ⟨Nat.le_of_ble_eq_true rfl, Nat.le_of_ble_eq_true rfl⟩ hl.1 rfl (Nat.le_of_ble_eq_true rfl) dX10_take_32 ⟨Nat.le_of_ble_eq_true rfl, Nat.le_of_ble_eq_true rfl⟩ (fun r203 ir203 Fr203 Gr203 _ locs hp hH hS => ?_)
        obtain ⟨honr203, hT, hP, h01r203, hsmr203, h47r203, hkpr203⟩ := hp
        have hT : TMm ir203 Fr203 := hT
        have hP : PMm x.toInt ir203 Fr203 := hP
        have h47r203 : (ir203 78 47).toInt ≤ Int32.toInt (iv 78 47) + 1 := h47r203
        have hsmr203 : Int32.toInt r203 = 0 → (ir203 78 47).toInt = Int32.toInt (iv 78 47) ∧ (ir203 78 51).toInt = Int32.toInt (iv 78 51) := fun q => by obtain ⟨q1, q2⟩ := hsmr203 (Int32.toInt_inj.mp q); exact ⟨congrArg Int32.toInt q1, congrArg Int32.toInt q2⟩
        have hTL := TMm.lin hT
        have hPl := hP.1
        have hTK : TKm ir203 Fr203 := TKm.ro (i := iv) (F := Fv) hTK honr203 (by decide)
        have hPI : PLI ir203 := PLI.ro (i := iv) (F := Fv) hPI honr203 (by decide)
        have hd : 0 < x.toInt ∨ Fr203 93 (Int32.toNatClampNeg x) = 1 := hd.imp id (fun q => (congrFun (honr203.2 93 (by decide)).1 _).trans q)
        have hBR : BR ir203 := BR.ro (i := iv) (F := Fv) hBR honr203 (by decide)
        have ek_32r203 : Int32.toInt (ir203 78 32) = Int32.toInt (iv 78 32) := congrArg Int32.toInt (honr203.1 78 32 (Or.inr (by decide)))
        have ek_40r203 : Int32.toInt (ir203 78 40) = Int32.toInt (iv 78 40) := congrArg Int32.toInt (honr203.1 78 40 (Or.inr (by decide)))
        have ek_19r203 : Int32.toInt (ir203 78 19) = Int32.toInt (iv 78 19) := congrArg Int32.toInt (honr203.1 78 19 (Or.inr (by decide)))
        have hTKl := hTK.1
        refine lv_if_ne (pc := 35) (tgt := 43) C0.1 C0.2.1 dX10_take_35 (by decide) (fun c204 => ?_) (fun c204 => ?_)
        · have : Int32.toInt 0 = 0 := rfl
          have c204 : ¬ _ := fun q => c204 (Int32.toInt_inj.mp q)
          exact L43 0 ir203 Fr203 Gr203 _ _ _ (RO.tr h1 honr203 (by decide) (by decide)) hT hPI (fun _ => PMm.one hP (hkpr203 (by first | assumption | exact h01r203.resolve_left (fun q => absurd (congrArg Int32.toInt q) (by assumption))))) (show Int32.toInt (ir203 78 32) ≤ _ ∧ Int32.toInt (ir203 78 40) ≤ _ ∧ Int32.toInt (ir203 78 47) ≤ _ from by have : Int32.toInt 0 = 0 := rfl; have : Int32.toInt 1 = 1 := rfl; omega) (show _ ≤ Int32.toInt (ir203 78 32) from by omega) hH hS (lv_sub hl [1, 2, 3] rfl)
        · have : Int32.toInt 0 = 0 := rfl
          have c204 := congrArg Int32.toInt c204
          refine lv_aload_n (pc := 38) C0.1 C0.2.1 dX10_take_38 rfl (lv_at hl 1 rfl) ?_
          refine lv_iload_n (pc := 39) C0.1 C0.2.1 dX10_take_39 rfl (lv_at hl 2 rfl) ?_
          refine xcVV (pc := 40) 78 [.int x] (m_place l D tA b ir203 Fr203 Gr203 x x.toInt hT hP hTK hPI hBR (show 0 < x.toInt ∨ Int32.toInt (ir203 78 51) = 1 from by omega) (show 0 ≤ Int32.toInt x ∧ Int32.toInt x < Int32.toInt (ir203 78 19) from by omega) hd (show Int32.toInt (ir203 78 40) < 1202 from by omega) (show Int32.toInt (ir203 78 47) < 1802 from by omega)) C0 hH hS clX10 rfl ⟨⟨Nat.le_of_ble_eq_true rfl, Nat.le_of_ble_eq_true rfl⟩, rfl, rfl⟩ cw_X10_328 rfl ⟨Nat.le_of_ble_eq_true rfl, Nat.le_of_ble_eq_true rfl⟩ hl.1 rfl (Nat.le_of_ble_eq_true rfl) dX10_take_40 ⟨Nat.le_of_ble_eq_true rfl, Nat.le_of_ble_eq_true rfl⟩ (fun ir205 Fr205 Gr205 _ locs hp hH hS => ?_)
          obtain ⟨honr205, hT, hPI, hP1, hcr205⟩ := hp
          have hT : TMm ir205 Fr205 := hT
          have hPI : PLI ir205 := hPI
          have hP1 : (ir205 78 30).toInt = 0 → PMm 1 ir205 Fr205 := hP1
          have hcr205 : (ir205 78 40).toInt ≤ Int32.toInt (ir203 78 40) + 1 ∧ (ir205 78 47).toInt ≤ Int32.toInt (ir203 78 47) + 1 := hcr205
          have hTL := TMm.lin hT
          have hTK : TKm ir205 Fr205 := TKm.ro (i := ir203) (F := Fr203) hTK honr205 (by decide)
          have hBR : BR ir205 := BR.ro (i := ir203) (F := Fr203) hBR honr205 (by decide)
          have ek_32r205 : Int32.toInt (ir205 78 32) = Int32.toInt (ir203 78 32) := congrArg Int32.toInt (honr205.1 78 32 (Or.inr (by decide)))
          have ek_19r205 : Int32.toInt (ir205 78 19) = Int32.toInt (ir203 78 19) := congrArg Int32.toInt (honr205.1 78 19 (Or.inr (by decide)))
          have hTKl := hTK.1
          exact L43 0 ir205 Fr205 Gr205 _ _ _ (RO.tr (RO.tr h1 honr203 (by decide) (by decide)) honr205 (by decide) (by decide)) hT hPI hP1 (show Int32.toInt (ir205 78 32) ≤ _ ∧ Int32.toInt (ir205 78 40) ≤ _ ∧ Int32.toInt (ir205 78 47) ≤ _ from by have : Int32.toInt 0 = 0 := rfl; have : Int32.toInt 1 = 1 := rfl; omega) (show _ ≤ Int32.toInt (ir205 78 32) from by omega) hH hS (lv_sub hl [1, 2, 3] rfl)
  refine lv_iload_n (pc := 0) C0.1 C0.2.1 dX10_take_0 rfl (lv_at hl 2 rfl) ?_
  refine lv_if_le (pc := 1) (tgt := 17) C0.1 C0.2.1 dX10_take_1 (by decide) (fun c1 => ?_) (fun c1 => ?_)
  · have : Int32.toInt 0 = 0 := rfl
    have c1 := Int32.le_iff_toInt_le.mp c1
    refine lv_iconst (pc := 17) (v := 0) C0.1 C0.2.1 dX10_take_17 (by decide) ?_
    refine lv_istore_n (pc := 18) (lv' := [(3, .int 0), (0, .ref (b + 78)), (1, .int x), (2, .int y)]) C0.1 C0.2.1 dX10_take_18 rfl hl (by decide) rfl (fun ls hl => ?_)
    exact L19 0 0 i F G _ _ _ RO.rf hT hPI hP (show Int32.toInt (i 78 32) ≤ _ ∧ Int32.toInt (i 78 40) ≤ _ + Int32.toInt 0 ∧ Int32.toInt (i 78 47) ≤ _ + 1 + Int32.toInt 0 from by have : Int32.toInt 0 = 0 := rfl; have : Int32.toInt 1 = 1 := rfl; omega) (by have : Int32.toInt 0 = 0 := rfl; have : Int32.toInt 1 = 1 := rfl; omega) (show 0 < x.toInt ∨ Int32.toInt (i 78 51) = 1 from by omega) (show _ ≤ Int32.toInt (i 78 32) from by omega) hH hS (lv_sub hl [0, 1, 2, 3] rfl)
  · have : Int32.toInt 0 = 0 := rfl
    have c1 : ¬ _ := fun q => c1 (Int32.le_iff_toInt_le.mpr q)
    refine lv_aload_n (pc := 4) C0.1 C0.2.1 dX10_take_4 rfl (lv_at hl 0 rfl) ?_
    refine lv_iload_n (pc := 5) C0.1 C0.2.1 dX10_take_5 rfl (lv_at hl 2 rfl) ?_
    refine lv_iload_n (pc := 6) C0.1 C0.2.1 dX10_take_6 rfl (lv_at hl 1 rfl) ?_
    refine xcVI (pc := 7) 78 [.int y, .int x] (m_opens l D tA b i F G y x x.toInt hT hP hTK hPI hBR (by omega) (show 1 ≤ Int32.toInt x ∧ Int32.toInt x < Int32.toInt (i 78 19) from by omega) (show Int32.toInt (i 78 32) < 1202 from by omega) (show Int32.toInt (i 78 40) < 1202 from by omega) (show Int32.toInt (i 78 47) < 1802 from by omega) (show Int32.toInt (i 78 47) < 1801 from by omega)) C0 hH hS clX10 rfl ⟨⟨Nat.le_of_ble_eq_true rfl, Nat.le_of_ble_eq_true rfl⟩, rfl, rfl⟩ cw_X10_323 rfl ⟨Nat.le_of_ble_eq_true rfl, Nat.le_of_ble_eq_true rfl⟩ hl.1 rfl (Nat.le_of_ble_eq_true rfl) dX10_take_7 ⟨Nat.le_of_ble_eq_true rfl, Nat.le_of_ble_eq_true rfl⟩ (fun r2 ir2 Fr2 Gr2 _ locs hp hH hS => ?_)
    obtain ⟨honr2, hT, hP, hPI, h01r2, hcr2, hblr2⟩ := hp
    have hblr2 : Int32.toInt (i 78 32) ≤ (ir2 78 32).toInt := hblr2
    have hT : TMm ir2 Fr2 := hT
    have hP : PMm x.toInt ir2 Fr2 := hP
    have hPI : PLI ir2 := hPI
    have hcr2 : (ir2 78 32).toInt ≤ Int32.toInt (i 78 32) + 1 ∧ (ir2 78 40).toInt ≤ Int32.toInt (i 78 40) + Int32.toInt r2 ∧ (ir2 78 47).toInt ≤ Int32.toInt (i 78 47) + 1 + Int32.toInt r2 := hcr2
    have h01Ir2 : Int32.toInt r2 = 0 ∨ Int32.toInt r2 = 1 := h01r2.imp (congrArg Int32.toInt) (congrArg Int32.toInt)
    have hTL := TMm.lin hT
    have hPl := hP.1
    have hTK : TKm ir2 Fr2 := TKm.ro (i := i) (F := F) hTK honr2 (by decide)
    have hBR : BR ir2 := BR.ro (i := i) (F := F) hBR honr2 (by decide)
    have ek_19r2 : Int32.toInt (ir2 78 19) = Int32.toInt (i 78 19) := congrArg Int32.toInt (honr2.1 78 19 (Or.inr (by decide)))
    have hTKl := hTK.1
    refine lv_if_eq (pc := 10) (tgt := 17) C0.1 C0.2.1 dX10_take_10 (by decide) (fun c3 => ?_) (fun c3 => ?_)
    · have : Int32.toInt 0 = 0 := rfl
      have c3 := congrArg Int32.toInt c3
      refine lv_iconst (pc := 17) (v := 0) C0.1 C0.2.1 dX10_take_17 (by decide) ?_
      refine lv_istore_n (pc := 18) (lv' := [(3, .int 0), (0, .ref (b + 78)), (1, .int x), (2, .int y)]) C0.1 C0.2.1 dX10_take_18 rfl hl (by decide) rfl (fun ls hl => ?_)
      exact L19 0 0 ir2 Fr2 Gr2 _ _ _ (RO.tr RO.rf honr2 (by decide) (by decide)) hT hPI hP (show Int32.toInt (ir2 78 32) ≤ _ ∧ Int32.toInt (ir2 78 40) ≤ _ + Int32.toInt 0 ∧ Int32.toInt (ir2 78 47) ≤ _ + 1 + Int32.toInt 0 from by have : Int32.toInt 0 = 0 := rfl; have : Int32.toInt 1 = 1 := rfl; omega) (by have : Int32.toInt 0 = 0 := rfl; have : Int32.toInt 1 = 1 := rfl; omega) (show 0 < x.toInt ∨ Int32.toInt (ir2 78 51) = 1 from by omega) (show _ ≤ Int32.toInt (ir2 78 32) from by omega) hH hS (lv_sub hl [0, 1, 2, 3] rfl)
    · have : Int32.toInt 0 = 0 := rfl
      have c3 : ¬ _ := fun q => c3 (Int32.toInt_inj.mp q)
      refine lv_iconst (pc := 13) (v := 1) C0.1 C0.2.1 dX10_take_13 (by decide) ?_
      refine lv_goto (pc := 14) (tgt := 18) C0.1 C0.2.1 dX10_take_14 (by decide) ?_
      refine lv_istore_n (pc := 18) (lv' := [(3, .int 1), (0, .ref (b + 78)), (1, .int x), (2, .int y)]) C0.1 C0.2.1 dX10_take_18 rfl hl (by decide) rfl (fun ls hl => ?_)
      exact L19 0 1 ir2 Fr2 Gr2 _ _ _ (RO.tr RO.rf honr2 (by decide) (by decide)) hT hPI hP (show Int32.toInt (ir2 78 32) ≤ _ ∧ Int32.toInt (ir2 78 40) ≤ _ + Int32.toInt 1 ∧ Int32.toInt (ir2 78 47) ≤ _ + 1 + Int32.toInt 1 from by have : Int32.toInt 0 = 0 := rfl; have : Int32.toInt 1 = 1 := rfl; omega) (by have : Int32.toInt 0 = 0 := rfl; have : Int32.toInt 1 = 1 := rfl; omega) (show 0 < x.toInt ∨ Int32.toInt (ir2 78 51) = 1 from by omega) (show _ ≤ Int32.toInt (ir2 78 32) from by omega) hH hS (lv_sub hl [0, 1, 2, 3] rfl)
