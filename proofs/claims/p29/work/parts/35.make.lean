set_option maxRecDepth 20000 in
theorem fl_X4_59 : Cond.fieldLink RX4 59 (TX1 7).1 (TX1 7).2.1 (TX1 7).2.2.1 ∈ WALL := wm 42 (by decide +kernel) rfl
set_option maxRecDepth 20000 in
theorem cw_X4_64 : CwV RX4 64 yX6_columnAt cX6_columnAt 5 (some .int) 2 := ⟨wm 789 (by decide +kernel) rfl, wm 790 (by decide +kernel) rfl, wm 791 (by decide +kernel) rfl, wm 3 (by decide +kernel) rfl, wm 792 rfl rfl, by decide +kernel⟩
set_option maxRecDepth 20000 in
theorem cw_X4_55 : CwV RX4 55 yX6_lineAt cX6_lineAt 4 (some .int) 1 := ⟨wm 785 (by decide +kernel) rfl, wm 786 (by decide +kernel) rfl, wm 787 (by decide +kernel) rfl, wm 3 (by decide +kernel) rfl, wm 788 rfl rfl, by decide +kernel⟩
set_option maxRecDepth 20000 in
theorem cw_X4_38 : CwV RX4 38 yX7_scan cX7_scan 4 none 2 := ⟨wm 647 (by decide +kernel) rfl, wm 648 (by decide +kernel) rfl, wm 649 (by decide +kernel) rfl, wm 5 (by decide +kernel) rfl, wm 650 rfl rfl, by decide +kernel⟩
set_option maxRecDepth 20000 in
theorem fl_X4_42 : Cond.fieldLink RX4 42 (TX7 8).1 (TX7 8).2.1 (TX7 8).2.2.1 ∈ WALL := wm 116 (by decide +kernel) rfl
set_option maxRecDepth 20000 in
theorem fl_X4_43 : Cond.fieldLink RX4 43 (TX7 9).1 (TX7 9).2.1 (TX7 9).2.2.1 ∈ WALL := wm 118 (by decide +kernel) rfl
set_option maxRecDepth 20000 in
theorem fl_X4_44 : Cond.fieldLink RX4 44 (TX6 1).1 (TX6 1).2.1 (TX6 1).2.2.1 ∈ WALL := wm 72 (by decide +kernel) rfl
set_option maxRecDepth 20000 in
theorem cw_X4_49 : CwV RX4 49 yX8_grow cX8_grow 4 none 2 := ⟨wm 700 (by decide +kernel) rfl, wm 701 (by decide +kernel) rfl, wm 702 (by decide +kernel) rfl, wm 6 (by decide +kernel) rfl, wm 703 rfl rfl, by decide +kernel⟩
set_option maxRecDepth 20000 in
theorem fl_X4_53 : Cond.fieldLink RX4 53 (TX8 4).1 (TX8 4).2.1 (TX8 4).2.2.1 ∈ WALL := wm 280 (by decide +kernel) rfl
set_option maxRecDepth 20000 in
theorem fl_X4_54 : Cond.fieldLink RX4 54 (TX8 5).1 (TX8 5).2.1 (TX8 5).2.2.1 ∈ WALL := wm 283 (by decide +kernel) rfl
theorem dX4_make_99 : decode cX4_make 99 = .ok (.aload_n 0, 1) := by decide +kernel
theorem dX4_make_100 : decode cX4_make 100 = .ok (.aload_n 0, 1) := by decide +kernel
theorem dX4_make_101 : decode cX4_make 101 = .ok (.getfield 25, 3) := by decide +kernel
theorem dX4_make_104 : decode cX4_make 104 = .ok (.ifCond .ne 8, 3) := by decide +kernel
theorem dX4_make_112 : decode cX4_make 112 = .ok (.aload_n 1, 1) := by decide +kernel
theorem dX4_make_113 : decode cX4_make 113 = .ok (.aload_n 0, 1) := by decide +kernel
theorem dX4_make_114 : decode cX4_make 114 = .ok (.getfield 29, 3) := by decide +kernel
theorem dX4_make_117 : decode cX4_make 117 = .ok (.aload_n 2, 1) := by decide +kernel
theorem dX4_make_118 : decode cX4_make 118 = .ok (.getfield 59, 3) := by decide +kernel
theorem dX4_make_121 : decode cX4_make 121 = .ok (.invokevirtual 64, 3) := by decide +kernel
theorem dX4_make_124 : decode cX4_make 124 = .ok (.putfield 35, 3) := by decide +kernel
theorem dX4_make_127 : decode cX4_make 127 = .ok (.return_, 1) := by decide +kernel
theorem dX4_make_107 : decode cX4_make 107 = .ok (.bipush (-9), 2) := by decide +kernel
theorem dX4_make_109 : decode cX4_make 109 = .ok (.goto 15, 3) := by decide +kernel
theorem dX4_make_75 : decode cX4_make 75 = .ok (.aload_n 0, 1) := by decide +kernel
theorem dX4_make_76 : decode cX4_make 76 = .ok (.aload_n 0, 1) := by decide +kernel
theorem dX4_make_77 : decode cX4_make 77 = .ok (.getfield 25, 3) := by decide +kernel
theorem dX4_make_80 : decode cX4_make 80 = .ok (.ifCond .ne 8, 3) := by decide +kernel
theorem dX4_make_88 : decode cX4_make 88 = .ok (.aload_n 1, 1) := by decide +kernel
theorem dX4_make_89 : decode cX4_make 89 = .ok (.aload_n 0, 1) := by decide +kernel
theorem dX4_make_90 : decode cX4_make 90 = .ok (.getfield 29, 3) := by decide +kernel
theorem dX4_make_93 : decode cX4_make 93 = .ok (.invokevirtual 55, 3) := by decide +kernel
theorem dX4_make_96 : decode cX4_make 96 = .ok (.putfield 32, 3) := by decide +kernel
theorem dX4_make_83 : decode cX4_make 83 = .ok (.bipush (-9), 2) := by decide +kernel
theorem dX4_make_85 : decode cX4_make 85 = .ok (.goto 11, 3) := by decide +kernel
theorem dX4_make_0 : decode cX4_make 0 = .ok (.aload_n 0, 1) := by decide +kernel
theorem dX4_make_1 : decode cX4_make 1 = .ok (.getfield 12, 3) := by decide +kernel
theorem dX4_make_4 : decode cX4_make 4 = .ok (.aload_n 1, 1) := by decide +kernel
theorem dX4_make_5 : decode cX4_make 5 = .ok (.aload_n 2, 1) := by decide +kernel
theorem dX4_make_6 : decode cX4_make 6 = .ok (.invokevirtual 38, 3) := by decide +kernel
theorem dX4_make_9 : decode cX4_make 9 = .ok (.aload_n 0, 1) := by decide +kernel
theorem dX4_make_10 : decode cX4_make 10 = .ok (.aload_n 0, 1) := by decide +kernel
theorem dX4_make_11 : decode cX4_make 11 = .ok (.getfield 12, 3) := by decide +kernel
theorem dX4_make_14 : decode cX4_make 14 = .ok (.getfield 42, 3) := by decide +kernel
theorem dX4_make_17 : decode cX4_make 17 = .ok (.putfield 25, 3) := by decide +kernel
theorem dX4_make_20 : decode cX4_make 20 = .ok (.aload_n 0, 1) := by decide +kernel
theorem dX4_make_21 : decode cX4_make 21 = .ok (.aload_n 0, 1) := by decide +kernel
theorem dX4_make_22 : decode cX4_make 22 = .ok (.getfield 12, 3) := by decide +kernel
theorem dX4_make_25 : decode cX4_make 25 = .ok (.getfield 43, 3) := by decide +kernel
theorem dX4_make_28 : decode cX4_make 28 = .ok (.putfield 29, 3) := by decide +kernel
theorem dX4_make_31 : decode cX4_make 31 = .ok (.aload_n 0, 1) := by decide +kernel
theorem dX4_make_32 : decode cX4_make 32 = .ok (.getfield 25, 3) := by decide +kernel
theorem dX4_make_35 : decode cX4_make 35 = .ok (.ifCond .ne 40, 3) := by decide +kernel
theorem dX4_make_38 : decode cX4_make 38 = .ok (.aload_n 0, 1) := by decide +kernel
theorem dX4_make_39 : decode cX4_make 39 = .ok (.getfield 21, 3) := by decide +kernel
theorem dX4_make_42 : decode cX4_make 42 = .ok (.aload_n 0, 1) := by decide +kernel
theorem dX4_make_43 : decode cX4_make 43 = .ok (.getfield 12, 3) := by decide +kernel
theorem dX4_make_46 : decode cX4_make 46 = .ok (.aload_n 1, 1) := by decide +kernel
theorem dX4_make_47 : decode cX4_make 47 = .ok (.getfield 44, 3) := by decide +kernel
theorem dX4_make_50 : decode cX4_make 50 = .ok (.invokevirtual 49, 3) := by decide +kernel
theorem dX4_make_53 : decode cX4_make 53 = .ok (.aload_n 0, 1) := by decide +kernel
theorem dX4_make_54 : decode cX4_make 54 = .ok (.aload_n 0, 1) := by decide +kernel
theorem dX4_make_55 : decode cX4_make 55 = .ok (.getfield 21, 3) := by decide +kernel
theorem dX4_make_58 : decode cX4_make 58 = .ok (.getfield 53, 3) := by decide +kernel
theorem dX4_make_61 : decode cX4_make 61 = .ok (.putfield 25, 3) := by decide +kernel
theorem dX4_make_64 : decode cX4_make 64 = .ok (.aload_n 0, 1) := by decide +kernel
theorem dX4_make_65 : decode cX4_make 65 = .ok (.aload_n 0, 1) := by decide +kernel
theorem dX4_make_66 : decode cX4_make 66 = .ok (.getfield 21, 3) := by decide +kernel
theorem dX4_make_69 : decode cX4_make 69 = .ok (.getfield 54, 3) := by decide +kernel
theorem dX4_make_72 : decode cX4_make 72 = .ok (.putfield 29, 3) := by decide +kernel
set_option maxHeartbeats 4000000 in
set_option maxRecDepth 100000 in
theorem g_X4_make_8 (l : Launch) (D : va_G) (tA : Nat → ClassId) (b : Nat) (i F : Nat → Nat → Int32) (G : Nat → Nat → Int64)  (hsz : 0 ≤ (i 4 1).toInt ∧ (i 4 1).toInt ≤ 600) (htd : 0 ≤ (i 1 2).toInt ∧ (i 1 2).toInt ≤ 24) (hF : Tf17 i F) (hQ : Pp17 600 i F) : xMV l yX4_make cX4_make 3 none 9 202 D tA b 0 78 i F G [.ref (b + 8), .ref (b + 4), .ref (b + 1)] (fun u => On 8 39 i F G u ∧ (0 ≤ (u.1 9 7).toInt ∧ (u.1 9 7).toInt ≤ 600) ∧ Tf17 u.1 u.2.1 ∧ Pp17 600 u.1 u.2.1) := by
  refine xstart RX4 rfl (by decide) (Nat.le_of_ble_eq_true rfl) ?_
  intro p e s m below meth c ls C0 hr hH hS hl
  have hl : lv_has ls 3 [(0, .ref (b + 8)), (1, .ref (b + 4)), (2, .ref (b + 1))] := hl
  have L99 : ∀ (d : Nat) (iv Fv : Nat → Nat → Int32) (Gv : Nat → Nat → Int64) (H : Heap) (locs : List Loc) (ls : Array Slot), (On 8 39 i F G (iv, Fv, Gv)) → (0 ≤ (iv 9 7).toInt ∧ (iv 9 7).toInt ≤ 600) → (Tf17 iv Fv) → (Pp17 600 iv Fv) → Hd D tA b 0 78 zz iv Fv Gv H → va_S (xA b 0 78) s.heap H locs → lv_has ls 3 [(0, .ref (b + 8)), (1, .ref (b + 4)), (2, .ref (b + 1))] → W p l e (xR 9 202) s m ([.ref (b + 8), .ref (b + 4), .ref (b + 1)] : List Value).toArray below meth c H locs 0 0 (MQ below (va_Qv (fun u => On 8 39 i F G u ∧ (0 ≤ (u.1 9 7).toInt ∧ (u.1 9 7).toInt ≤ 600) ∧ Tf17 u.1 u.2.1 ∧ Pp17 600 u.1 u.2.1) (xB D tA b 0 78 zz) (xA b 0 78)) ([.ref (b + 8), .ref (b + 4), .ref (b + 1)] : List Value).toArray s 0 0 (xA b 0 78)) (F0 m 99 ls []) := by
    intro d
    intro iv Fv Gv H locs ls h1 h2 h3 h4 hH hS hl
    have ek4 : Int32.toInt (iv 4 1) = Int32.toInt (i 4 1) := congrArg Int32.toInt (congrFun (h1.1 4 (by decide)).1 1)
    have ek1 : Int32.toInt (iv 1 2) = Int32.toInt (i 1 2) := congrArg Int32.toInt (congrFun (h1.1 1 (by decide)).1 2)
    refine lv_aload_n (pc := 99) C0.1 C0.2.1 dX4_make_99 rfl (lv_at hl 0 rfl) ?_
    refine lv_aload_n (pc := 100) C0.1 C0.2.1 dX4_make_100 rfl (lv_at hl 0 rfl) ?_
    refine xget (pc := 101) C0 hH 8 2 clX4 ⟨Nat.le_of_ble_eq_true rfl, Nat.le_of_ble_eq_true rfl⟩ ⟨rfl, rfl⟩ (Nat.le_of_ble_eq_true rfl) fl_X4_25 (v := .int (iv 8 2)) rfl dX4_make_101 ?_
    refine lv_if_ne (pc := 104) (tgt := 112) C0.1 C0.2.1 dX4_make_104 (by decide) (fun c201 => ?_) (fun c201 => ?_)
    · have : Int32.toInt 0 = 0 := rfl
      have c201 : ¬ _ := fun q => c201 (Int32.toInt_inj.mp q)
      refine lv_aload_n (pc := 112) C0.1 C0.2.1 dX4_make_112 rfl (lv_at hl 1 rfl) ?_
      refine lv_aload_n (pc := 113) C0.1 C0.2.1 dX4_make_113 rfl (lv_at hl 0 rfl) ?_
      refine xget (pc := 114) C0 hH 8 3 clX4 ⟨Nat.le_of_ble_eq_true rfl, Nat.le_of_ble_eq_true rfl⟩ ⟨rfl, rfl⟩ (Nat.le_of_ble_eq_true rfl) fl_X4_29 (v := .int (iv 8 3)) rfl dX4_make_114 ?_
      refine lv_aload_n (pc := 117) C0.1 C0.2.1 dX4_make_117 rfl (lv_at hl 2 rfl) ?_
      refine xget (pc := 118) C0 hH 1 7 clX1 ⟨Nat.le_of_ble_eq_true rfl, Nat.le_of_ble_eq_true rfl⟩ ⟨rfl, rfl⟩ (Nat.le_of_ble_eq_true rfl) fl_X4_59 (v := .int (iv 1 7)) rfl dX4_make_118 ?_
      refine xcVI (pc := 121) 4 [.int (iv 8 3), .int (iv 1 7)] (g_X6_columnAt_4 l D tA b iv Fv Gv (iv 8 3) (iv 1 7) (show 0 ≤ Int32.toInt (iv 4 1) ∧ Int32.toInt (iv 4 1) ≤ 600 from by omega)) C0 hH hS clX6 rfl ⟨⟨Nat.le_of_ble_eq_true rfl, Nat.le_of_ble_eq_true rfl⟩, rfl, rfl⟩ cw_X4_64 rfl ⟨Nat.le_of_ble_eq_true rfl, Nat.le_of_ble_eq_true rfl⟩ hl.1 rfl (Nat.le_of_ble_eq_true rfl) dX4_make_121 ⟨Nat.le_of_ble_eq_true rfl, Nat.le_of_ble_eq_true rfl⟩ (fun r202 ir202 Fr202 Gr202 _ locs hp hH hS => ?_)
      obtain ⟨hu, hpr202⟩ := hp
      cases hu
      refine xputI (pc := 124) C0 (Nat.le_of_ble_eq_true rfl) hH hS 8 5 clX4 ⟨Nat.le_of_ble_eq_true rfl, Nat.le_of_ble_eq_true rfl⟩ ⟨rfl, rfl⟩ ⟨Nat.le_of_ble_eq_true rfl, rfl, rfl⟩ fl_X4_35 (x := r202) ⟨rfl, rfl⟩ dX4_make_124 (fun _ locs hH hS _ => ?_)
      have hH : Hd D tA b 0 78 zz (up2 iv 8 5 r202) Fv Gv _ := hH
      exact xvret (pc := 127) C0 hr hH hS dX4_make_127 ⟨(On.i h1 (by decide)), h2, h3, h4⟩
    · have : Int32.toInt 0 = 0 := rfl
      have c201 := congrArg Int32.toInt c201
      refine lv_bipush (pc := 107) (v := (-9)) C0.1 C0.2.1 dX4_make_107 (by decide) ?_
      refine lv_goto (pc := 109) (tgt := 124) C0.1 C0.2.1 dX4_make_109 (by decide) ?_
      refine xputI (pc := 124) C0 (Nat.le_of_ble_eq_true rfl) hH hS 8 5 clX4 ⟨Nat.le_of_ble_eq_true rfl, Nat.le_of_ble_eq_true rfl⟩ ⟨rfl, rfl⟩ ⟨Nat.le_of_ble_eq_true rfl, rfl, rfl⟩ fl_X4_35 (x := (-9)) ⟨rfl, rfl⟩ dX4_make_124 (fun _ locs hH hS _ => ?_)
      have hH : Hd D tA b 0 78 zz (up2 iv 8 5 (-9)) Fv Gv _ := hH
      exact xvret (pc := 127) C0 hr hH hS dX4_make_127 ⟨(On.i h1 (by decide)), h2, h3, h4⟩
  have L75 : ∀ (d : Nat) (iv Fv : Nat → Nat → Int32) (Gv : Nat → Nat → Int64) (H : Heap) (locs : List Loc) (ls : Array Slot), (On 8 39 i F G (iv, Fv, Gv)) → (0 ≤ (iv 9 7).toInt ∧ (iv 9 7).toInt ≤ 600) → (Tf17 iv Fv) → (Pp17 600 iv Fv) → Hd D tA b 0 78 zz iv Fv Gv H → va_S (xA b 0 78) s.heap H locs → lv_has ls 3 [(0, .ref (b + 8)), (1, .ref (b + 4)), (2, .ref (b + 1))] → W p l e (xR 9 202) s m ([.ref (b + 8), .ref (b + 4), .ref (b + 1)] : List Value).toArray below meth c H locs 0 0 (MQ below (va_Qv (fun u => On 8 39 i F G u ∧ (0 ≤ (u.1 9 7).toInt ∧ (u.1 9 7).toInt ≤ 600) ∧ Tf17 u.1 u.2.1 ∧ Pp17 600 u.1 u.2.1) (xB D tA b 0 78 zz) (xA b 0 78)) ([.ref (b + 8), .ref (b + 4), .ref (b + 1)] : List Value).toArray s 0 0 (xA b 0 78)) (F0 m 75 ls []) := by
    intro d
    intro iv Fv Gv H locs ls h1 h2 h3 h4 hH hS hl
    have ek4 : Int32.toInt (iv 4 1) = Int32.toInt (i 4 1) := congrArg Int32.toInt (congrFun (h1.1 4 (by decide)).1 1)
    have ek1 : Int32.toInt (iv 1 2) = Int32.toInt (i 1 2) := congrArg Int32.toInt (congrFun (h1.1 1 (by decide)).1 2)
    refine lv_aload_n (pc := 75) C0.1 C0.2.1 dX4_make_75 rfl (lv_at hl 0 rfl) ?_
    refine lv_aload_n (pc := 76) C0.1 C0.2.1 dX4_make_76 rfl (lv_at hl 0 rfl) ?_
    refine xget (pc := 77) C0 hH 8 2 clX4 ⟨Nat.le_of_ble_eq_true rfl, Nat.le_of_ble_eq_true rfl⟩ ⟨rfl, rfl⟩ (Nat.le_of_ble_eq_true rfl) fl_X4_25 (v := .int (iv 8 2)) rfl dX4_make_77 ?_
    refine lv_if_ne (pc := 80) (tgt := 88) C0.1 C0.2.1 dX4_make_80 (by decide) (fun c201 => ?_) (fun c201 => ?_)
    · have : Int32.toInt 0 = 0 := rfl
      have c201 : ¬ _ := fun q => c201 (Int32.toInt_inj.mp q)
      refine lv_aload_n (pc := 88) C0.1 C0.2.1 dX4_make_88 rfl (lv_at hl 1 rfl) ?_
      refine lv_aload_n (pc := 89) C0.1 C0.2.1 dX4_make_89 rfl (lv_at hl 0 rfl) ?_
      refine xget (pc := 90) C0 hH 8 3 clX4 ⟨Nat.le_of_ble_eq_true rfl, Nat.le_of_ble_eq_true rfl⟩ ⟨rfl, rfl⟩ (Nat.le_of_ble_eq_true rfl) fl_X4_29 (v := .int (iv 8 3)) rfl dX4_make_90 ?_
      refine xcVI (pc := 93) 4 [.int (iv 8 3)] (g_X6_lineAt_4 l D tA b iv Fv Gv (iv 8 3) (show 0 ≤ Int32.toInt (iv 4 1) ∧ Int32.toInt (iv 4 1) ≤ 600 from by omega)) C0 hH hS clX6 rfl ⟨⟨Nat.le_of_ble_eq_true rfl, Nat.le_of_ble_eq_true rfl⟩, rfl, rfl⟩ cw_X4_55 rfl ⟨Nat.le_of_ble_eq_true rfl, Nat.le_of_ble_eq_true rfl⟩ hl.1 rfl (Nat.le_of_ble_eq_true rfl) dX4_make_93 ⟨Nat.le_of_ble_eq_true rfl, Nat.le_of_ble_eq_true rfl⟩ (fun r202 ir202 Fr202 Gr202 _ locs hp hH hS => ?_)
      obtain ⟨hu, hpr202⟩ := hp
      cases hu
      refine xputI (pc := 96) C0 (Nat.le_of_ble_eq_true rfl) hH hS 8 4 clX4 ⟨Nat.le_of_ble_eq_true rfl, Nat.le_of_ble_eq_true rfl⟩ ⟨rfl, rfl⟩ ⟨Nat.le_of_ble_eq_true rfl, rfl, rfl⟩ fl_X4_32 (x := r202) ⟨rfl, rfl⟩ dX4_make_96 (fun _ locs hH hS _ => ?_)
      have hH : Hd D tA b 0 78 zz (up2 iv 8 4 r202) Fv Gv _ := hH
      exact L99 0 (up2 iv 8 4 r202) Fv Gv _ _ _ (On.i h1 (by decide)) h2 h3 h4 hH hS (lv_sub hl [0, 1, 2] rfl)
    · have : Int32.toInt 0 = 0 := rfl
      have c201 := congrArg Int32.toInt c201
      refine lv_bipush (pc := 83) (v := (-9)) C0.1 C0.2.1 dX4_make_83 (by decide) ?_
      refine lv_goto (pc := 85) (tgt := 96) C0.1 C0.2.1 dX4_make_85 (by decide) ?_
      refine xputI (pc := 96) C0 (Nat.le_of_ble_eq_true rfl) hH hS 8 4 clX4 ⟨Nat.le_of_ble_eq_true rfl, Nat.le_of_ble_eq_true rfl⟩ ⟨rfl, rfl⟩ ⟨Nat.le_of_ble_eq_true rfl, rfl, rfl⟩ fl_X4_32 (x := (-9)) ⟨rfl, rfl⟩ dX4_make_96 (fun _ locs hH hS _ => ?_)
      have hH : Hd D tA b 0 78 zz (up2 iv 8 4 (-9)) Fv Gv _ := hH
      exact L99 0 (up2 iv 8 4 (-9)) Fv Gv _ _ _ (On.i h1 (by decide)) h2 h3 h4 hH hS (lv_sub hl [0, 1, 2] rfl)
  refine lv_aload_n (pc := 0) C0.1 C0.2.1 dX4_make_0 rfl (lv_at hl 0 rfl) ?_
  refine xget (pc := 1) C0 hH 8 0 clX4 ⟨Nat.le_of_ble_eq_true rfl, Nat.le_of_ble_eq_true rfl⟩ ⟨rfl, rfl⟩ (Nat.le_of_ble_eq_true rfl) fl_X4_12 (v := .ref (b + 9)) rfl dX4_make_1 ?_
  refine lv_aload_n (pc := 4) C0.1 C0.2.1 dX4_make_4 rfl (lv_at hl 1 rfl) ?_
  refine lv_aload_n (pc := 5) C0.1 C0.2.1 dX4_make_5 rfl (lv_at hl 2 rfl) ?_
  refine xcVV (pc := 6) 9 [.ref (b + 4), .ref (b + 1)] (g_X7_scan_9 l D tA b i F G  (show 0 ≤ Int32.toInt (i 4 1) ∧ Int32.toInt (i 4 1) ≤ 600 from by omega) (show 0 ≤ Int32.toInt (i 1 2) ∧ Int32.toInt (i 1 2) ≤ 24 from by omega)) C0 hH hS clX7 rfl ⟨⟨Nat.le_of_ble_eq_true rfl, Nat.le_of_ble_eq_true rfl⟩, rfl, rfl⟩ cw_X4_38 rfl ⟨Nat.le_of_ble_eq_true rfl, Nat.le_of_ble_eq_true rfl⟩ hl.1 rfl (Nat.le_of_ble_eq_true rfl) dX4_make_6 ⟨Nat.le_of_ble_eq_true rfl, Nat.le_of_ble_eq_true rfl⟩ (fun ir1 Fr1 Gr1 _ locs hp hH hS => ?_)
  obtain ⟨honr1, ht1r1, ht2r1, htfr1⟩ := hp
  try dsimp only at ht1r1 ht2r1 htfr1
  have ek_4_1r1 : Int32.toInt (ir1 4 1) = Int32.toInt (i 4 1) := congrArg Int32.toInt (congrFun (honr1.1 4 (by decide)).1 1)
  have ek_1_2r1 : Int32.toInt (ir1 1 2) = Int32.toInt (i 1 2) := congrArg Int32.toInt (congrFun (honr1.1 1 (by decide)).1 2)
  have hF : Tf17 ir1 Fr1 := Tf17.on hF honr1 (by decide)
  have hQ : Pp17 600 ir1 Fr1 := Pp17.on hQ honr1 (by decide)
  refine lv_aload_n (pc := 9) C0.1 C0.2.1 dX4_make_9 rfl (lv_at hl 0 rfl) ?_
  refine lv_aload_n (pc := 10) C0.1 C0.2.1 dX4_make_10 rfl (lv_at hl 0 rfl) ?_
  refine xget (pc := 11) C0 hH 8 0 clX4 ⟨Nat.le_of_ble_eq_true rfl, Nat.le_of_ble_eq_true rfl⟩ ⟨rfl, rfl⟩ (Nat.le_of_ble_eq_true rfl) fl_X4_12 (v := .ref (b + 9)) rfl dX4_make_11 ?_
  refine xget (pc := 14) C0 hH 9 8 clX7 ⟨Nat.le_of_ble_eq_true rfl, Nat.le_of_ble_eq_true rfl⟩ ⟨rfl, rfl⟩ (Nat.le_of_ble_eq_true rfl) fl_X4_42 (v := .int (ir1 9 8)) rfl dX4_make_14 ?_
  refine lv_topi (fun x2 ex2 => ?_)
  refine xputI (pc := 17) C0 (Nat.le_of_ble_eq_true rfl) hH hS 8 2 clX4 ⟨Nat.le_of_ble_eq_true rfl, Nat.le_of_ble_eq_true rfl⟩ ⟨rfl, rfl⟩ ⟨Nat.le_of_ble_eq_true rfl, rfl, rfl⟩ fl_X4_25 (x := x2) ⟨rfl, rfl⟩ dX4_make_17 (fun _ locs hH hS _ => ?_)
  have hH : Hd D tA b 0 78 zz (up2 ir1 8 2 x2) Fr1 Gr1 _ := hH
  refine lv_aload_n (pc := 20) C0.1 C0.2.1 dX4_make_20 rfl (lv_at hl 0 rfl) ?_
  refine lv_aload_n (pc := 21) C0.1 C0.2.1 dX4_make_21 rfl (lv_at hl 0 rfl) ?_
  refine xget (pc := 22) C0 hH 8 0 clX4 ⟨Nat.le_of_ble_eq_true rfl, Nat.le_of_ble_eq_true rfl⟩ ⟨rfl, rfl⟩ (Nat.le_of_ble_eq_true rfl) fl_X4_12 (v := .ref (b + 9)) rfl dX4_make_22 ?_
  refine xget (pc := 25) C0 hH 9 9 clX7 ⟨Nat.le_of_ble_eq_true rfl, Nat.le_of_ble_eq_true rfl⟩ ⟨rfl, rfl⟩ (Nat.le_of_ble_eq_true rfl) fl_X4_43 (v := .int (ir1 9 9)) rfl dX4_make_25 ?_
  refine lv_topi (fun x3 ex3 => ?_)
  refine xputI (pc := 28) C0 (Nat.le_of_ble_eq_true rfl) hH hS 8 3 clX4 ⟨Nat.le_of_ble_eq_true rfl, Nat.le_of_ble_eq_true rfl⟩ ⟨rfl, rfl⟩ ⟨Nat.le_of_ble_eq_true rfl, rfl, rfl⟩ fl_X4_29 (x := x3) ⟨rfl, rfl⟩ dX4_make_28 (fun _ locs hH hS _ => ?_)
  have hH : Hd D tA b 0 78 zz (up2 (up2 ir1 8 2 x2) 8 3 x3) Fr1 Gr1 _ := hH
  refine lv_aload_n (pc := 31) C0.1 C0.2.1 dX4_make_31 rfl (lv_at hl 0 rfl) ?_
  refine xget (pc := 32) C0 hH 8 2 clX4 ⟨Nat.le_of_ble_eq_true rfl, Nat.le_of_ble_eq_true rfl⟩ ⟨rfl, rfl⟩ (Nat.le_of_ble_eq_true rfl) fl_X4_25 (v := .int x2) rfl dX4_make_32 ?_
  refine lv_if_ne (pc := 35) (tgt := 75) C0.1 C0.2.1 dX4_make_35 (by decide) (fun c4 => ?_) (fun c4 => ?_)
  · have : Int32.toInt 0 = 0 := rfl
    have c4 : ¬ _ := fun q => c4 (Int32.toInt_inj.mp q)
    exact L75 0 (up2 (up2 ir1 8 2 x2) 8 3 x3) Fr1 Gr1 _ _ _ (On.i (On.i (On.tr On.rf honr1 (by decide) (by decide)) (by decide)) (by decide)) (show 0 ≤ Int32.toInt (ir1 9 7) ∧ Int32.toInt (ir1 9 7) ≤ 600 from by omega) hF hQ hH hS (lv_sub hl [0, 1, 2] rfl)
  · have : Int32.toInt 0 = 0 := rfl
    have c4 := congrArg Int32.toInt c4
    refine lv_aload_n (pc := 38) C0.1 C0.2.1 dX4_make_38 rfl (lv_at hl 0 rfl) ?_
    refine xget (pc := 39) C0 hH 8 1 clX4 ⟨Nat.le_of_ble_eq_true rfl, Nat.le_of_ble_eq_true rfl⟩ ⟨rfl, rfl⟩ (Nat.le_of_ble_eq_true rfl) fl_X4_21 (v := .ref (b + 17)) rfl dX4_make_39 ?_
    refine lv_aload_n (pc := 42) C0.1 C0.2.1 dX4_make_42 rfl (lv_at hl 0 rfl) ?_
    refine xget (pc := 43) C0 hH 8 0 clX4 ⟨Nat.le_of_ble_eq_true rfl, Nat.le_of_ble_eq_true rfl⟩ ⟨rfl, rfl⟩ (Nat.le_of_ble_eq_true rfl) fl_X4_12 (v := .ref (b + 9)) rfl dX4_make_43 ?_
    refine lv_aload_n (pc := 46) C0.1 C0.2.1 dX4_make_46 rfl (lv_at hl 1 rfl) ?_
    refine xget (pc := 47) C0 hH 4 1 clX6 ⟨Nat.le_of_ble_eq_true rfl, Nat.le_of_ble_eq_true rfl⟩ ⟨rfl, rfl⟩ (Nat.le_of_ble_eq_true rfl) fl_X4_44 (v := .int (ir1 4 1)) rfl dX4_make_47 ?_
    refine xcVV (pc := 50) 17 [.ref (b + 9), .int (ir1 4 1)] (g_X8_grow_17_9 l D tA b (up2 (up2 ir1 8 2 x2) 8 3 x3) Fr1 Gr1 (ir1 4 1) hF (show 0 ≤ Int32.toInt (ir1 9 7) ∧ Int32.toInt (ir1 9 7) ≤ 600 from by omega)) C0 hH hS clX8 rfl ⟨⟨Nat.le_of_ble_eq_true rfl, Nat.le_of_ble_eq_true rfl⟩, rfl, rfl⟩ cw_X4_49 rfl ⟨Nat.le_of_ble_eq_true rfl, Nat.le_of_ble_eq_true rfl⟩ hl.1 rfl (Nat.le_of_ble_eq_true rfl) dX4_make_50 ⟨Nat.le_of_ble_eq_true rfl, Nat.le_of_ble_eq_true rfl⟩ (fun ir5 Fr5 Gr5 _ locs hp hH hS => ?_)
    obtain ⟨honr5, hF, hQ⟩ := hp
    have hF : Tf17 ir5 Fr5 := hF
    have hQ : Pp17 600 ir5 Fr5 := hQ
    have ek_4_1r5 : Int32.toInt (ir5 4 1) = Int32.toInt (ir1 4 1) := congrArg Int32.toInt (congrFun (honr5.1 4 (by decide)).1 1)
    have ek_1_2r5 : Int32.toInt (ir5 1 2) = Int32.toInt (ir1 1 2) := congrArg Int32.toInt (congrFun (honr5.1 1 (by decide)).1 2)
    have ek_9_7r5 : Int32.toInt (ir5 9 7) = Int32.toInt (ir1 9 7) := congrArg Int32.toInt (congrFun (honr5.1 9 (by decide)).1 7)
    refine lv_aload_n (pc := 53) C0.1 C0.2.1 dX4_make_53 rfl (lv_at hl 0 rfl) ?_
    refine lv_aload_n (pc := 54) C0.1 C0.2.1 dX4_make_54 rfl (lv_at hl 0 rfl) ?_
    refine xget (pc := 55) C0 hH 8 1 clX4 ⟨Nat.le_of_ble_eq_true rfl, Nat.le_of_ble_eq_true rfl⟩ ⟨rfl, rfl⟩ (Nat.le_of_ble_eq_true rfl) fl_X4_21 (v := .ref (b + 17)) rfl dX4_make_55 ?_
    refine xget (pc := 58) C0 hH 17 4 clX8 ⟨Nat.le_of_ble_eq_true rfl, Nat.le_of_ble_eq_true rfl⟩ ⟨rfl, rfl⟩ (Nat.le_of_ble_eq_true rfl) fl_X4_53 (v := .int (ir5 17 4)) rfl dX4_make_58 ?_
    refine lv_topi (fun x6 ex6 => ?_)
    refine xputI (pc := 61) C0 (Nat.le_of_ble_eq_true rfl) hH hS 8 2 clX4 ⟨Nat.le_of_ble_eq_true rfl, Nat.le_of_ble_eq_true rfl⟩ ⟨rfl, rfl⟩ ⟨Nat.le_of_ble_eq_true rfl, rfl, rfl⟩ fl_X4_25 (x := x6) ⟨rfl, rfl⟩ dX4_make_61 (fun _ locs hH hS _ => ?_)
    have hH : Hd D tA b 0 78 zz (up2 ir5 8 2 x6) Fr5 Gr5 _ := hH
    refine lv_aload_n (pc := 64) C0.1 C0.2.1 dX4_make_64 rfl (lv_at hl 0 rfl) ?_
    refine lv_aload_n (pc := 65) C0.1 C0.2.1 dX4_make_65 rfl (lv_at hl 0 rfl) ?_
    refine xget (pc := 66) C0 hH 8 1 clX4 ⟨Nat.le_of_ble_eq_true rfl, Nat.le_of_ble_eq_true rfl⟩ ⟨rfl, rfl⟩ (Nat.le_of_ble_eq_true rfl) fl_X4_21 (v := .ref (b + 17)) rfl dX4_make_66 ?_
    refine xget (pc := 69) C0 hH 17 5 clX8 ⟨Nat.le_of_ble_eq_true rfl, Nat.le_of_ble_eq_true rfl⟩ ⟨rfl, rfl⟩ (Nat.le_of_ble_eq_true rfl) fl_X4_54 (v := .int (ir5 17 5)) rfl dX4_make_69 ?_
    refine lv_topi (fun x7 ex7 => ?_)
    refine xputI (pc := 72) C0 (Nat.le_of_ble_eq_true rfl) hH hS 8 3 clX4 ⟨Nat.le_of_ble_eq_true rfl, Nat.le_of_ble_eq_true rfl⟩ ⟨rfl, rfl⟩ ⟨Nat.le_of_ble_eq_true rfl, rfl, rfl⟩ fl_X4_29 (x := x7) ⟨rfl, rfl⟩ dX4_make_72 (fun _ locs hH hS _ => ?_)
    have hH : Hd D tA b 0 78 zz (up2 (up2 ir5 8 2 x6) 8 3 x7) Fr5 Gr5 _ := hH
    exact L75 0 (up2 (up2 ir5 8 2 x6) 8 3 x7) Fr5 Gr5 _ _ _ (On.i (On.i (On.tr (On.i (On.i (On.tr On.rf honr1 (by decide) (by decide)) (by decide)) (by decide)) honr5 (by decide) (by decide)) (by decide)) (by decide)) (show 0 ≤ Int32.toInt (ir5 9 7) ∧ Int32.toInt (ir5 9 7) ≤ 600 from by omega) hF hQ hH hS (lv_sub hl [0, 1, 2] rfl)
set_option maxHeartbeats 4000000 in
set_option maxRecDepth 100000 in
theorem g_X4_make_39 (l : Launch) (D : va_G) (tA : Nat → ClassId) (b : Nat) (i F : Nat → Nat → Int32) (G : Nat → Nat → Int64)  (hsz : 0 ≤ (i 6 1).toInt ∧ (i 6 1).toInt ≤ 600) (htd : 0 ≤ (i 1 2).toInt ∧ (i 1 2).toInt ≤ 24) (hF : Tf48 i F) (hQ : Pp48 600 i F) : xMV l yX4_make cX4_make 3 none 9 202 D tA b 0 78 i F G [.ref (b + 39), .ref (b + 6), .ref (b + 1)] (fun u => On 39 70 i F G u ∧ (0 ≤ (u.1 40 7).toInt ∧ (u.1 40 7).toInt ≤ 600) ∧ Tf48 u.1 u.2.1 ∧ Pp48 600 u.1 u.2.1) := by
  refine xstart RX4 rfl (by decide) (Nat.le_of_ble_eq_true rfl) ?_
  intro p e s m below meth c ls C0 hr hH hS hl
  have hl : lv_has ls 3 [(0, .ref (b + 39)), (1, .ref (b + 6)), (2, .ref (b + 1))] := hl
  have L99 : ∀ (d : Nat) (iv Fv : Nat → Nat → Int32) (Gv : Nat → Nat → Int64) (H : Heap) (locs : List Loc) (ls : Array Slot), (On 39 70 i F G (iv, Fv, Gv)) → (0 ≤ (iv 40 7).toInt ∧ (iv 40 7).toInt ≤ 600) → (Tf48 iv Fv) → (Pp48 600 iv Fv) → Hd D tA b 0 78 zz iv Fv Gv H → va_S (xA b 0 78) s.heap H locs → lv_has ls 3 [(0, .ref (b + 39)), (1, .ref (b + 6)), (2, .ref (b + 1))] → W p l e (xR 9 202) s m ([.ref (b + 39), .ref (b + 6), .ref (b + 1)] : List Value).toArray below meth c H locs 0 0 (MQ below (va_Qv (fun u => On 39 70 i F G u ∧ (0 ≤ (u.1 40 7).toInt ∧ (u.1 40 7).toInt ≤ 600) ∧ Tf48 u.1 u.2.1 ∧ Pp48 600 u.1 u.2.1) (xB D tA b 0 78 zz) (xA b 0 78)) ([.ref (b + 39), .ref (b + 6), .ref (b + 1)] : List Value).toArray s 0 0 (xA b 0 78)) (F0 m 99 ls []) := by
    intro d
    intro iv Fv Gv H locs ls h1 h2 h3 h4 hH hS hl
    have ek6 : Int32.toInt (iv 6 1) = Int32.toInt (i 6 1) := congrArg Int32.toInt (congrFun (h1.1 6 (by decide)).1 1)
    have ek1 : Int32.toInt (iv 1 2) = Int32.toInt (i 1 2) := congrArg Int32.toInt (congrFun (h1.1 1 (by decide)).1 2)
    refine lv_aload_n (pc := 99) C0.1 C0.2.1 dX4_make_99 rfl (lv_at hl 0 rfl) ?_
    refine lv_aload_n (pc := 100) C0.1 C0.2.1 dX4_make_100 rfl (lv_at hl 0 rfl) ?_
    refine xget (pc := 101) C0 hH 39 2 clX4 ⟨Nat.le_of_ble_eq_true rfl, Nat.le_of_ble_eq_true rfl⟩ ⟨rfl, rfl⟩ (Nat.le_of_ble_eq_true rfl) fl_X4_25 (v := .int (iv 39 2)) rfl dX4_make_101 ?_
    refine lv_if_ne (pc := 104) (tgt := 112) C0.1 C0.2.1 dX4_make_104 (by decide) (fun c201 => ?_) (fun c201 => ?_)
    · have : Int32.toInt 0 = 0 := rfl
      have c201 : ¬ _ := fun q => c201 (Int32.toInt_inj.mp q)
      refine lv_aload_n (pc := 112) C0.1 C0.2.1 dX4_make_112 rfl (lv_at hl 1 rfl) ?_
      refine lv_aload_n (pc := 113) C0.1 C0.2.1 dX4_make_113 rfl (lv_at hl 0 rfl) ?_
      refine xget (pc := 114) C0 hH 39 3 clX4 ⟨Nat.le_of_ble_eq_true rfl, Nat.le_of_ble_eq_true rfl⟩ ⟨rfl, rfl⟩ (Nat.le_of_ble_eq_true rfl) fl_X4_29 (v := .int (iv 39 3)) rfl dX4_make_114 ?_
      refine lv_aload_n (pc := 117) C0.1 C0.2.1 dX4_make_117 rfl (lv_at hl 2 rfl) ?_
      refine xget (pc := 118) C0 hH 1 7 clX1 ⟨Nat.le_of_ble_eq_true rfl, Nat.le_of_ble_eq_true rfl⟩ ⟨rfl, rfl⟩ (Nat.le_of_ble_eq_true rfl) fl_X4_59 (v := .int (iv 1 7)) rfl dX4_make_118 ?_
      refine xcVI (pc := 121) 6 [.int (iv 39 3), .int (iv 1 7)] (g_X6_columnAt_6 l D tA b iv Fv Gv (iv 39 3) (iv 1 7) (show 0 ≤ Int32.toInt (iv 6 1) ∧ Int32.toInt (iv 6 1) ≤ 600 from by omega)) C0 hH hS clX6 rfl ⟨⟨Nat.le_of_ble_eq_true rfl, Nat.le_of_ble_eq_true rfl⟩, rfl, rfl⟩ cw_X4_64 rfl ⟨Nat.le_of_ble_eq_true rfl, Nat.le_of_ble_eq_true rfl⟩ hl.1 rfl (Nat.le_of_ble_eq_true rfl) dX4_make_121 ⟨Nat.le_of_ble_eq_true rfl, Nat.le_of_ble_eq_true rfl⟩ (fun r202 ir202 Fr202 Gr202 _ locs hp hH hS => ?_)
      obtain ⟨hu, hpr202⟩ := hp
      cases hu
      refine xputI (pc := 124) C0 (Nat.le_of_ble_eq_true rfl) hH hS 39 5 clX4 ⟨Nat.le_of_ble_eq_true rfl, Nat.le_of_ble_eq_true rfl⟩ ⟨rfl, rfl⟩ ⟨Nat.le_of_ble_eq_true rfl, rfl, rfl⟩ fl_X4_35 (x := r202) ⟨rfl, rfl⟩ dX4_make_124 (fun _ locs hH hS _ => ?_)
      have hH : Hd D tA b 0 78 zz (up2 iv 39 5 r202) Fv Gv _ := hH
      exact xvret (pc := 127) C0 hr hH hS dX4_make_127 ⟨(On.i h1 (by decide)), h2, h3, h4⟩
    · have : Int32.toInt 0 = 0 := rfl
      have c201 := congrArg Int32.toInt c201
      refine lv_bipush (pc := 107) (v := (-9)) C0.1 C0.2.1 dX4_make_107 (by decide) ?_
      refine lv_goto (pc := 109) (tgt := 124) C0.1 C0.2.1 dX4_make_109 (by decide) ?_
      refine xputI (pc := 124) C0 (Nat.le_of_ble_eq_true rfl) hH hS 39 5 clX4 ⟨Nat.le_of_ble_eq_true rfl, Nat.le_of_ble_eq_true rfl⟩ ⟨rfl, rfl⟩ ⟨Nat.le_of_ble_eq_true rfl, rfl, rfl⟩ fl_X4_35 (x := (-9)) ⟨rfl, rfl⟩ dX4_make_124 (fun _ locs hH hS _ => ?_)
      have hH : Hd D tA b 0 78 zz (up2 iv 39 5 (-9)) Fv Gv _ := hH
      exact xvret (pc := 127) C0 hr hH hS dX4_make_127 ⟨(On.i h1 (by decide)), h2, h3, h4⟩
  have L75 : ∀ (d : Nat) (iv Fv : Nat → Nat → Int32) (Gv : Nat → Nat → Int64) (H : Heap) (locs : List Loc) (ls : Array Slot), (On 39 70 i F G (iv, Fv, Gv)) → (0 ≤ (iv 40 7).toInt ∧ (iv 40 7).toInt ≤ 600) → (Tf48 iv Fv) → (Pp48 600 iv Fv) → Hd D tA b 0 78 zz iv Fv Gv H → va_S (xA b 0 78) s.heap H locs → lv_has ls 3 [(0, .ref (b + 39)), (1, .ref (b + 6)), (2, .ref (b + 1))] → W p l e (xR 9 202) s m ([.ref (b + 39), .ref (b + 6), .ref (b + 1)] : List Value).toArray below meth c H locs 0 0 (MQ below (va_Qv (fun u => On 39 70 i F G u ∧ (0 ≤ (u.1 40 7).toInt ∧ (u.1 40 7).toInt ≤ 600) ∧ Tf48 u.1 u.2.1 ∧ Pp48 600 u.1 u.2.1) (xB D tA b 0 78 zz) (xA b 0 78)) ([.ref (b + 39), .ref (b + 6), .ref (b + 1)] : List Value).toArray s 0 0 (xA b 0 78)) (F0 m 75 ls []) := by
    intro d
    intro iv Fv Gv H locs ls h1 h2 h3 h4 hH hS hl
    have ek6 : Int32.toInt (iv 6 1) = Int32.toInt (i 6 1) := congrArg Int32.toInt (congrFun (h1.1 6 (by decide)).1 1)
    have ek1 : Int32.toInt (iv 1 2) = Int32.toInt (i 1 2) := congrArg Int32.toInt (congrFun (h1.1 1 (by decide)).1 2)
    refine lv_aload_n (pc := 75) C0.1 C0.2.1 dX4_make_75 rfl (lv_at hl 0 rfl) ?_
    refine lv_aload_n (pc := 76) C0.1 C0.2.1 dX4_make_76 rfl (lv_at hl 0 rfl) ?_
    refine xget (pc := 77) C0 hH 39 2 clX4 ⟨Nat.le_of_ble_eq_true rfl, Nat.le_of_ble_eq_true rfl⟩ ⟨rfl, rfl⟩ (Nat.le_of_ble_eq_true rfl) fl_X4_25 (v := .int (iv 39 2)) rfl dX4_make_77 ?_
    refine lv_if_ne (pc := 80) (tgt := 88) C0.1 C0.2.1 dX4_make_80 (by decide) (fun c201 => ?_) (fun c201 => ?_)
    · have : Int32.toInt 0 = 0 := rfl
      have c201 : ¬ _ := fun q => c201 (Int32.toInt_inj.mp q)
      refine lv_aload_n (pc := 88) C0.1 C0.2.1 dX4_make_88 rfl (lv_at hl 1 rfl) ?_
      refine lv_aload_n (pc := 89) C0.1 C0.2.1 dX4_make_89 rfl (lv_at hl 0 rfl) ?_
      refine xget (pc := 90) C0 hH 39 3 clX4 ⟨Nat.le_of_ble_eq_true rfl, Nat.le_of_ble_eq_true rfl⟩ ⟨rfl, rfl⟩ (Nat.le_of_ble_eq_true rfl) fl_X4_29 (v := .int (iv 39 3)) rfl dX4_make_90 ?_
      refine xcVI (pc := 93) 6 [.int (iv 39 3)] (g_X6_lineAt_6 l D tA b iv Fv Gv (iv 39 3) (show 0 ≤ Int32.toInt (iv 6 1) ∧ Int32.toInt (iv 6 1) ≤ 600 from by omega)) C0 hH hS clX6 rfl ⟨⟨Nat.le_of_ble_eq_true rfl, Nat.le_of_ble_eq_true rfl⟩, rfl, rfl⟩ cw_X4_55 rfl ⟨Nat.le_of_ble_eq_true rfl, Nat.le_of_ble_eq_true rfl⟩ hl.1 rfl (Nat.le_of_ble_eq_true rfl) dX4_make_93 ⟨Nat.le_of_ble_eq_true rfl, Nat.le_of_ble_eq_true rfl⟩ (fun r202 ir202 Fr202 Gr202 _ locs hp hH hS => ?_)
      obtain ⟨hu, hpr202⟩ := hp
      cases hu
      refine xputI (pc := 96) C0 (Nat.le_of_ble_eq_true rfl) hH hS 39 4 clX4 ⟨Nat.le_of_ble_eq_true rfl, Nat.le_of_ble_eq_true rfl⟩ ⟨rfl, rfl⟩ ⟨Nat.le_of_ble_eq_true rfl, rfl, rfl⟩ fl_X4_32 (x := r202) ⟨rfl, rfl⟩ dX4_make_96 (fun _ locs hH hS _ => ?_)
      have hH : Hd D tA b 0 78 zz (up2 iv 39 4 r202) Fv Gv _ := hH
      exact L99 0 (up2 iv 39 4 r202) Fv Gv _ _ _ (On.i h1 (by decide)) h2 h3 h4 hH hS (lv_sub hl [0, 1, 2] rfl)
    · have : Int32.toInt 0 = 0 := rfl
      have c201 := congrArg Int32.toInt c201
      refine lv_bipush (pc := 83) (v := (-9)) C0.1 C0.2.1 dX4_make_83 (by decide) ?_
      refine lv_goto (pc := 85) (tgt := 96) C0.1 C0.2.1 dX4_make_85 (by decide) ?_
      refine xputI (pc := 96) C0 (Nat.le_of_ble_eq_true rfl) hH hS 39 4 clX4 ⟨Nat.le_of_ble_eq_true rfl, Nat.le_of_ble_eq_true rfl⟩ ⟨rfl, rfl⟩ ⟨Nat.le_of_ble_eq_true rfl, rfl, rfl⟩ fl_X4_32 (x := (-9)) ⟨rfl, rfl⟩ dX4_make_96 (fun _ locs hH hS _ => ?_)
      have hH : Hd D tA b 0 78 zz (up2 iv 39 4 (-9)) Fv Gv _ := hH
      exact L99 0 (up2 iv 39 4 (-9)) Fv Gv _ _ _ (On.i h1 (by decide)) h2 h3 h4 hH hS (lv_sub hl [0, 1, 2] rfl)
  refine lv_aload_n (pc := 0) C0.1 C0.2.1 dX4_make_0 rfl (lv_at hl 0 rfl) ?_
  refine xget (pc := 1) C0 hH 39 0 clX4 ⟨Nat.le_of_ble_eq_true rfl, Nat.le_of_ble_eq_true rfl⟩ ⟨rfl, rfl⟩ (Nat.le_of_ble_eq_true rfl) fl_X4_12 (v := .ref (b + 40)) rfl dX4_make_1 ?_
  refine lv_aload_n (pc := 4) C0.1 C0.2.1 dX4_make_4 rfl (lv_at hl 1 rfl) ?_
  refine lv_aload_n (pc := 5) C0.1 C0.2.1 dX4_make_5 rfl (lv_at hl 2 rfl) ?_
  refine xcVV (pc := 6) 40 [.ref (b + 6), .ref (b + 1)] (g_X7_scan_40 l D tA b i F G  (show 0 ≤ Int32.toInt (i 6 1) ∧ Int32.toInt (i 6 1) ≤ 600 from by omega) (show 0 ≤ Int32.toInt (i 1 2) ∧ Int32.toInt (i 1 2) ≤ 24 from by omega)) C0 hH hS clX7 rfl ⟨⟨Nat.le_of_ble_eq_true rfl, Nat.le_of_ble_eq_true rfl⟩, rfl, rfl⟩ cw_X4_38 rfl ⟨Nat.le_of_ble_eq_true rfl, Nat.le_of_ble_eq_true rfl⟩ hl.1 rfl (Nat.le_of_ble_eq_true rfl) dX4_make_6 ⟨Nat.le_of_ble_eq_true rfl, Nat.le_of_ble_eq_true rfl⟩ (fun ir1 Fr1 Gr1 _ locs hp hH hS => ?_)
  obtain ⟨honr1, ht1r1, ht2r1, htfr1⟩ := hp
  try dsimp only at ht1r1 ht2r1 htfr1
  have ek_6_1r1 : Int32.toInt (ir1 6 1) = Int32.toInt (i 6 1) := congrArg Int32.toInt (congrFun (honr1.1 6 (by decide)).1 1)
  have ek_1_2r1 : Int32.toInt (ir1 1 2) = Int32.toInt (i 1 2) := congrArg Int32.toInt (congrFun (honr1.1 1 (by decide)).1 2)
  have hF : Tf48 ir1 Fr1 := Tf48.on hF honr1 (by decide)
  have hQ : Pp48 600 ir1 Fr1 := Pp48.on hQ honr1 (by decide)
  refine lv_aload_n (pc := 9) C0.1 C0.2.1 dX4_make_9 rfl (lv_at hl 0 rfl) ?_
  refine lv_aload_n (pc := 10) C0.1 C0.2.1 dX4_make_10 rfl (lv_at hl 0 rfl) ?_
  refine xget (pc := 11) C0 hH 39 0 clX4 ⟨Nat.le_of_ble_eq_true rfl, Nat.le_of_ble_eq_true rfl⟩ ⟨rfl, rfl⟩ (Nat.le_of_ble_eq_true rfl) fl_X4_12 (v := .ref (b + 40)) rfl dX4_make_11 ?_
  refine xget (pc := 14) C0 hH 40 8 clX7 ⟨Nat.le_of_ble_eq_true rfl, Nat.le_of_ble_eq_true rfl⟩ ⟨rfl, rfl⟩ (Nat.le_of_ble_eq_true rfl) fl_X4_42 (v := .int (ir1 40 8)) rfl dX4_make_14 ?_
  refine lv_topi (fun x2 ex2 => ?_)
  refine xputI (pc := 17) C0 (Nat.le_of_ble_eq_true rfl) hH hS 39 2 clX4 ⟨Nat.le_of_ble_eq_true rfl, Nat.le_of_ble_eq_true rfl⟩ ⟨rfl, rfl⟩ ⟨Nat.le_of_ble_eq_true rfl, rfl, rfl⟩ fl_X4_25 (x := x2) ⟨rfl, rfl⟩ dX4_make_17 (fun _ locs hH hS _ => ?_)
  have hH : Hd D tA b 0 78 zz (up2 ir1 39 2 x2) Fr1 Gr1 _ := hH
  refine lv_aload_n (pc := 20) C0.1 C0.2.1 dX4_make_20 rfl (lv_at hl 0 rfl) ?_
  refine lv_aload_n (pc := 21) C0.1 C0.2.1 dX4_make_21 rfl (lv_at hl 0 rfl) ?_
  refine xget (pc := 22) C0 hH 39 0 clX4 ⟨Nat.le_of_ble_eq_true rfl, Nat.le_of_ble_eq_true rfl⟩ ⟨rfl, rfl⟩ (Nat.le_of_ble_eq_true rfl) fl_X4_12 (v := .ref (b + 40)) rfl dX4_make_22 ?_
  refine xget (pc := 25) C0 hH 40 9 clX7 ⟨Nat.le_of_ble_eq_true rfl, Nat.le_of_ble_eq_true rfl⟩ ⟨rfl, rfl⟩ (Nat.le_of_ble_eq_true rfl) fl_X4_43 (v := .int (ir1 40 9)) rfl dX4_make_25 ?_
  refine lv_topi (fun x3 ex3 => ?_)
  refine xputI (pc := 28) C0 (Nat.le_of_ble_eq_true rfl) hH hS 39 3 clX4 ⟨Nat.le_of_ble_eq_true rfl, Nat.le_of_ble_eq_true rfl⟩ ⟨rfl, rfl⟩ ⟨Nat.le_of_ble_eq_true rfl, rfl, rfl⟩ fl_X4_29 (x := x3) ⟨rfl, rfl⟩ dX4_make_28 (fun _ locs hH hS _ => ?_)
  have hH : Hd D tA b 0 78 zz (up2 (up2 ir1 39 2 x2) 39 3 x3) Fr1 Gr1 _ := hH
  refine lv_aload_n (pc := 31) C0.1 C0.2.1 dX4_make_31 rfl (lv_at hl 0 rfl) ?_
  refine xget (pc := 32) C0 hH 39 2 clX4 ⟨Nat.le_of_ble_eq_true rfl, Nat.le_of_ble_eq_true rfl⟩ ⟨rfl, rfl⟩ (Nat.le_of_ble_eq_true rfl) fl_X4_25 (v := .int x2) rfl dX4_make_32 ?_
  refine lv_if_ne (pc := 35) (tgt := 75) C0.1 C0.2.1 dX4_make_35 (by decide) (fun c4 => ?_) (fun c4 => ?_)
  · have : Int32.toInt 0 = 0 := rfl
    have c4 : ¬ _ := fun q => c4 (Int32.toInt_inj.mp q)
    exact L75 0 (up2 (up2 ir1 39 2 x2) 39 3 x3) Fr1 Gr1 _ _ _ (On.i (On.i (On.tr On.rf honr1 (by decide) (by decide)) (by decide)) (by decide)) (show 0 ≤ Int32.toInt (ir1 40 7) ∧ Int32.toInt (ir1 40 7) ≤ 600 from by omega) hF hQ hH hS (lv_sub hl [0, 1, 2] rfl)
  · have : Int32.toInt 0 = 0 := rfl
    have c4 := congrArg Int32.toInt c4
    refine lv_aload_n (pc := 38) C0.1 C0.2.1 dX4_make_38 rfl (lv_at hl 0 rfl) ?_
    refine xget (pc := 39) C0 hH 39 1 clX4 ⟨Nat.le_of_ble_eq_true rfl, Nat.le_of_ble_eq_true rfl⟩ ⟨rfl, rfl⟩ (Nat.le_of_ble_eq_true rfl) fl_X4_21 (v := .ref (b + 48)) rfl dX4_make_39 ?_
    refine lv_aload_n (pc := 42) C0.1 C0.2.1 dX4_make_42 rfl (lv_at hl 0 rfl) ?_
    refine xget (pc := 43) C0 hH 39 0 clX4 ⟨Nat.le_of_ble_eq_true rfl, Nat.le_of_ble_eq_true rfl⟩ ⟨rfl, rfl⟩ (Nat.le_of_ble_eq_true rfl) fl_X4_12 (v := .ref (b + 40)) rfl dX4_make_43 ?_
    refine lv_aload_n (pc := 46) C0.1 C0.2.1 dX4_make_46 rfl (lv_at hl 1 rfl) ?_
    refine xget (pc := 47) C0 hH 6 1 clX6 ⟨Nat.le_of_ble_eq_true rfl, Nat.le_of_ble_eq_true rfl⟩ ⟨rfl, rfl⟩ (Nat.le_of_ble_eq_true rfl) fl_X4_44 (v := .int (ir1 6 1)) rfl dX4_make_47 ?_
    refine xcVV (pc := 50) 48 [.ref (b + 40), .int (ir1 6 1)] (g_X8_grow_48_40 l D tA b (up2 (up2 ir1 39 2 x2) 39 3 x3) Fr1 Gr1 (ir1 6 1) hF (show 0 ≤ Int32.toInt (ir1 40 7) ∧ Int32.toInt (ir1 40 7) ≤ 600 from by omega)) C0 hH hS clX8 rfl ⟨⟨Nat.le_of_ble_eq_true rfl, Nat.le_of_ble_eq_true rfl⟩, rfl, rfl⟩ cw_X4_49 rfl ⟨Nat.le_of_ble_eq_true rfl, Nat.le_of_ble_eq_true rfl⟩ hl.1 rfl (Nat.le_of_ble_eq_true rfl) dX4_make_50 ⟨Nat.le_of_ble_eq_true rfl, Nat.le_of_ble_eq_true rfl⟩ (fun ir5 Fr5 Gr5 _ locs hp hH hS => ?_)
    obtain ⟨honr5, hF, hQ⟩ := hp
    have hF : Tf48 ir5 Fr5 := hF
    have hQ : Pp48 600 ir5 Fr5 := hQ
    have ek_6_1r5 : Int32.toInt (ir5 6 1) = Int32.toInt (ir1 6 1) := congrArg Int32.toInt (congrFun (honr5.1 6 (by decide)).1 1)
    have ek_1_2r5 : Int32.toInt (ir5 1 2) = Int32.toInt (ir1 1 2) := congrArg Int32.toInt (congrFun (honr5.1 1 (by decide)).1 2)
    have ek_40_7r5 : Int32.toInt (ir5 40 7) = Int32.toInt (ir1 40 7) := congrArg Int32.toInt (congrFun (honr5.1 40 (by decide)).1 7)
    refine lv_aload_n (pc := 53) C0.1 C0.2.1 dX4_make_53 rfl (lv_at hl 0 rfl) ?_
    refine lv_aload_n (pc := 54) C0.1 C0.2.1 dX4_make_54 rfl (lv_at hl 0 rfl) ?_
    refine xget (pc := 55) C0 hH 39 1 clX4 ⟨Nat.le_of_ble_eq_true rfl, Nat.le_of_ble_eq_true rfl⟩ ⟨rfl, rfl⟩ (Nat.le_of_ble_eq_true rfl) fl_X4_21 (v := .ref (b + 48)) rfl dX4_make_55 ?_
    refine xget (pc := 58) C0 hH 48 4 clX8 ⟨Nat.le_of_ble_eq_true rfl, Nat.le_of_ble_eq_true rfl⟩ ⟨rfl, rfl⟩ (Nat.le_of_ble_eq_true rfl) fl_X4_53 (v := .int (ir5 48 4)) rfl dX4_make_58 ?_
    refine lv_topi (fun x6 ex6 => ?_)
    refine xputI (pc := 61) C0 (Nat.le_of_ble_eq_true rfl) hH hS 39 2 clX4 ⟨Nat.le_of_ble_eq_true rfl, Nat.le_of_ble_eq_true rfl⟩ ⟨rfl, rfl⟩ ⟨Nat.le_of_ble_eq_true rfl, rfl, rfl⟩ fl_X4_25 (x := x6) ⟨rfl, rfl⟩ dX4_make_61 (fun _ locs hH hS _ => ?_)
    have hH : Hd D tA b 0 78 zz (up2 ir5 39 2 x6) Fr5 Gr5 _ := hH
    refine lv_aload_n (pc := 64) C0.1 C0.2.1 dX4_make_64 rfl (lv_at hl 0 rfl) ?_
    refine lv_aload_n (pc := 65) C0.1 C0.2.1 dX4_make_65 rfl (lv_at hl 0 rfl) ?_
    refine xget (pc := 66) C0 hH 39 1 clX4 ⟨Nat.le_of_ble_eq_true rfl, Nat.le_of_ble_eq_true rfl⟩ ⟨rfl, rfl⟩ (Nat.le_of_ble_eq_true rfl) fl_X4_21 (v := .ref (b + 48)) rfl dX4_make_66 ?_
    refine xget (pc := 69) C0 hH 48 5 clX8 ⟨Nat.le_of_ble_eq_true rfl, Nat.le_of_ble_eq_true rfl⟩ ⟨rfl, rfl⟩ (Nat.le_of_ble_eq_true rfl) fl_X4_54 (v := .int (ir5 48 5)) rfl dX4_make_69 ?_
    refine lv_topi (fun x7 ex7 => ?_)
    refine xputI (pc := 72) C0 (Nat.le_of_ble_eq_true rfl) hH hS 39 3 clX4 ⟨Nat.le_of_ble_eq_true rfl, Nat.le_of_ble_eq_true rfl⟩ ⟨rfl, rfl⟩ ⟨Nat.le_of_ble_eq_true rfl, rfl, rfl⟩ fl_X4_29 (x := x7) ⟨rfl, rfl⟩ dX4_make_72 (fun _ locs hH hS _ => ?_)
    have hH : Hd D tA b 0 78 zz (up2 (up2 ir5 39 2 x6) 39 3 x7) Fr5 Gr5 _ := hH
    exact L75 0 (up2 (up2 ir5 39 2 x6) 39 3 x7) Fr5 Gr5 _ _ _ (On.i (On.i (On.tr (On.i (On.i (On.tr On.rf honr1 (by decide) (by decide)) (by decide)) (by decide)) honr5 (by decide) (by decide)) (by decide)) (by decide)) (show 0 ≤ Int32.toInt (ir5 40 7) ∧ Int32.toInt (ir5 40 7) ≤ 600 from by omega) hF hQ hH hS (lv_sub hl [0, 1, 2] rfl)
