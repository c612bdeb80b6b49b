set_option maxRecDepth 20000 in
theorem cw_X6_52 : CwV RX6 52 yX6_startOf cX6_startOf 4 (some .int) 1 := ⟨wm 609 (by decide +kernel) rfl, wm 610 (by decide +kernel) rfl, wm 611 (by decide +kernel) rfl, wm 3 (by decide +kernel) rfl, wm 612 rfl rfl, by decide +kernel⟩
theorem dX6_refusalOfSlide_0 : decode cX6_refusalOfSlide 0 = .ok (.aload_n 0, 1) := by decide +kernel
theorem dX6_refusalOfSlide_1 : decode cX6_refusalOfSlide 1 = .ok (.iload_n 1, 1) := by decide +kernel
theorem dX6_refusalOfSlide_2 : decode cX6_refusalOfSlide 2 = .ok (.invokevirtual 52, 3) := by decide +kernel
theorem dX6_refusalOfSlide_5 : decode cX6_refusalOfSlide 5 = .ok (.istore_n 3, 1) := by decide +kernel
theorem dX6_refusalOfSlide_6 : decode cX6_refusalOfSlide 6 = .ok (.iload_n 3, 1) := by decide +kernel
theorem dX6_refusalOfSlide_7 : decode cX6_refusalOfSlide 7 = .ok (.bipush (-9), 2) := by decide +kernel
theorem dX6_refusalOfSlide_9 : decode cX6_refusalOfSlide 9 = .ok (.if_icmp .ne 5, 3) := by decide +kernel
theorem dX6_refusalOfSlide_14 : decode cX6_refusalOfSlide 14 = .ok (.iload_n 2, 1) := by decide +kernel
theorem dX6_refusalOfSlide_15 : decode cX6_refusalOfSlide 15 = .ok (.bipush (-40), 2) := by decide +kernel
theorem dX6_refusalOfSlide_17 : decode cX6_refusalOfSlide 17 = .ok (.if_icmp .lt 9, 3) := by decide +kernel
theorem dX6_refusalOfSlide_26 : decode cX6_refusalOfSlide 26 = .ok (.bipush (-2), 2) := by decide +kernel
theorem dX6_refusalOfSlide_28 : decode cX6_refusalOfSlide 28 = .ok (.ireturn, 1) := by decide +kernel
theorem dX6_refusalOfSlide_20 : decode cX6_refusalOfSlide 20 = .ok (.iload_n 2, 1) := by decide +kernel
theorem dX6_refusalOfSlide_21 : decode cX6_refusalOfSlide 21 = .ok (.bipush 40, 2) := by decide +kernel
theorem dX6_refusalOfSlide_23 : decode cX6_refusalOfSlide 23 = .ok (.if_icmp .le 6, 3) := by decide +kernel
theorem dX6_refusalOfSlide_29 : decode cX6_refusalOfSlide 29 = .ok (.iconst 0, 1) := by decide +kernel
theorem dX6_refusalOfSlide_30 : decode cX6_refusalOfSlide 30 = .ok (.istore 4, 2) := by decide +kernel
theorem dX6_refusalOfSlide_12 : decode cX6_refusalOfSlide 12 = .ok (.iconst (-1), 1) := by decide +kernel
theorem dX6_refusalOfSlide_13 : decode cX6_refusalOfSlide 13 = .ok (.ireturn, 1) := by decide +kernel
theorem dX6_refusalOfSlide_32 : decode cX6_refusalOfSlide 32 = .ok (.iload 4, 2) := by decide +kernel
theorem dX6_refusalOfSlide_34 : decode cX6_refusalOfSlide 34 = .ok (.iload_n 2, 1) := by decide +kernel
theorem dX6_refusalOfSlide_35 : decode cX6_refusalOfSlide 35 = .ok (.ineg, 1) := by decide +kernel
theorem dX6_refusalOfSlide_36 : decode cX6_refusalOfSlide 36 = .ok (.if_icmp .ge 25, 3) := by decide +kernel
theorem dX6_refusalOfSlide_61 : decode cX6_refusalOfSlide 61 = .ok (.aload_n 0, 1) := by decide +kernel
theorem dX6_refusalOfSlide_62 : decode cX6_refusalOfSlide 62 = .ok (.getfield 15, 3) := by decide +kernel
theorem dX6_refusalOfSlide_65 : decode cX6_refusalOfSlide 65 = .ok (.iload_n 2, 1) := by decide +kernel
theorem dX6_refusalOfSlide_66 : decode cX6_refusalOfSlide 66 = .ok (.iadd, 1) := by decide +kernel
theorem dX6_refusalOfSlide_67 : decode cX6_refusalOfSlide 67 = .ok (.sipush 600, 3) := by decide +kernel
theorem dX6_refusalOfSlide_70 : decode cX6_refusalOfSlide 70 = .ok (.if_icmp .le 8, 3) := by decide +kernel
theorem dX6_refusalOfSlide_78 : decode cX6_refusalOfSlide 78 = .ok (.iconst 0, 1) := by decide +kernel
theorem dX6_refusalOfSlide_79 : decode cX6_refusalOfSlide 79 = .ok (.ireturn, 1) := by decide +kernel
theorem dX6_refusalOfSlide_73 : decode cX6_refusalOfSlide 73 = .ok (.bipush (-4), 2) := by decide +kernel
theorem dX6_refusalOfSlide_75 : decode cX6_refusalOfSlide 75 = .ok (.goto 4, 3) := by decide +kernel
theorem dX6_refusalOfSlide_39 : decode cX6_refusalOfSlide 39 = .ok (.aload_n 0, 1) := by decide +kernel
theorem dX6_refusalOfSlide_40 : decode cX6_refusalOfSlide 40 = .ok (.iload_n 3, 1) := by decide +kernel
theorem dX6_refusalOfSlide_41 : decode cX6_refusalOfSlide 41 = .ok (.iload 4, 2) := by decide +kernel
theorem dX6_refusalOfSlide_43 : decode cX6_refusalOfSlide 43 = .ok (.iadd, 1) := by decide +kernel
theorem dX6_refusalOfSlide_44 : decode cX6_refusalOfSlide 44 = .ok (.invokevirtual 37, 3) := by decide +kernel
theorem dX6_refusalOfSlide_47 : decode cX6_refusalOfSlide 47 = .ok (.bipush 32, 2) := by decide +kernel
theorem dX6_refusalOfSlide_49 : decode cX6_refusalOfSlide 49 = .ok (.if_icmp .eq 6, 3) := by decide +kernel
theorem dX6_refusalOfSlide_55 : decode cX6_refusalOfSlide 55 = .ok (.iinc 4 1, 3) := by decide +kernel
theorem dX6_refusalOfSlide_58 : decode cX6_refusalOfSlide 58 = .ok (.goto (-26), 3) := by decide +kernel
theorem dX6_refusalOfSlide_52 : decode cX6_refusalOfSlide 52 = .ok (.bipush (-3), 2) := by decide +kernel
theorem dX6_refusalOfSlide_54 : decode cX6_refusalOfSlide 54 = .ok (.ireturn, 1) := by decide +kernel
set_option maxHeartbeats 4000000 in
set_option maxRecDepth 100000 in
theorem g_X6_refusalOfSlide_4 (l : Launch) (D : va_G) (tA : Nat → ClassId) (b : Nat) (i F : Nat → Nat → Int32) (G : Nat → Nat → Int64) (x y : Int32) (hsz : 0 ≤ (i 4 1).toInt ∧ (i 4 1).toInt ≤ 600) : xMI l yX6_refusalOfSlide cX6_refusalOfSlide 5 (some .int) 1 23 D tA b 0 78 i F G [.ref (b + 4), .int x, .int y] (fun r u => u = (i, F, G) ∧ (r.toInt = 0 → 0 ≤ Int32.toInt (so_ (F 5) (i 4 1) x) ∧ Int32.toInt (so_ (F 5) (i 4 1) x) < (i 4 1).toInt ∧ -40 ≤ y.toInt ∧ y.toInt ≤ 40 ∧ Int32.toInt (so_ (F 5) (i 4 1) x) - y.toInt ≤ (i 4 1).toInt ∧ (i 4 1).toInt + y.toInt ≤ 600)) := by
  refine xstart RX6 rfl (by decide) (Nat.le_of_ble_eq_true rfl) ?_
  intro p e s m below meth c ls C0 hr hH hS hl
  have hl : lv_has ls 5 [(0, .ref (b + 4)), (1, .int x), (2, .int y)] := hl
  have rg_x := fb_rng x
  have rg_y := fb_rng y
  have LOOP : ∀ (d : Nat) (k q9 : Int32) (H : Heap) (locs : List Loc) (ls : Array Slot), (0 ≤ k.toInt) → (-y.toInt - k.toInt ≤ d) → (0 ≤ q9.toInt ∧ q9.toInt < (i 4 1).toInt) → (-40 ≤ y.toInt ∧ y.toInt ≤ 40) → (k.toInt = 0 ∨ q9.toInt + k.toInt ≤ (i 4 1).toInt) → (k.toInt ≤ 40) → (q9 = (so_ (F 5) (i 4 1) x)) → Hd D tA b 0 78 zz i F G H → va_S (xA b 0 78) s.heap H locs → lv_has ls 5 [(4, .int k), (3, .int q9), (1, .int x), (2, .int y), (0, .ref (b + 4))] → W p l e (xR 1 23) s m ([.ref (b + 4), .int x, .int y] : List Value).toArray below meth c H locs 0 0 (MQ below (va_Qi (fun r u => u = (i, F, G) ∧ (r.toInt = 0 → 0 ≤ Int32.toInt (so_ (F 5) (i 4 1) x) ∧ Int32.toInt (so_ (F 5) (i 4 1) x) < (i 4 1).toInt ∧ -40 ≤ y.toInt ∧ y.toInt ≤ 40 ∧ Int32.toInt (so_ (F 5) (i 4 1) x) - y.toInt ≤ (i 4 1).toInt ∧ (i 4 1).toInt + y.toInt ≤ 600)) (xB D tA b 0 78 zz) (xA b 0 78)) ([.ref (b + 4), .int x, .int y] : List Value).toArray s 0 0 (xA b 0 78)) (F0 m 32 ls []) := by
    intro d
    induction d with
    | zero =>
      intro k q9 H locs ls h1 h2 h3 h4 h5 h6 h7 hH hS hl
      have rg_k := fb_rng k
      have rg_q9 := fb_rng q9
      refine lv_iload (pc := 32) C0.1 C0.2.1 dX6_refusalOfSlide_32 (lv_at hl 0 rfl) ?_
      refine lv_iload_n (pc := 34) C0.1 C0.2.1 dX6_refusalOfSlide_34 rfl (lv_at hl 3 rfl) ?_
      refine lv_ineg (pc := 35) C0.1 C0.2.1 dX6_refusalOfSlide_35 ?_
      refine lv_topi (fun x101 ex101 => ?_)
      have hx101 : Int32.toInt x101 = - Int32.toInt y := by rw [ex101]; exact fb_negI (by omega)
      refine lv_icmp_ge (pc := 36) (tgt := 61) C0.1 C0.2.1 dX6_refusalOfSlide_36 (by decide) (fun _ => ?_) (fun c => absurd (Int32.le_iff_toInt_le.mpr (by omega)) c)
      refine lv_aload_n (pc := 61) C0.1 C0.2.1 dX6_refusalOfSlide_61 rfl (lv_at hl 4 rfl) ?_
      refine xget (pc := 62) C0 hH 4 1 clX6 ⟨Nat.le_of_ble_eq_true rfl, Nat.le_of_ble_eq_true rfl⟩ ⟨rfl, rfl⟩ (Nat.le_of_ble_eq_true rfl) fl_X6_15 (v := .int (i 4 1)) rfl dX6_refusalOfSlide_62 ?_
      refine lv_iload_n (pc := 65) C0.1 C0.2.1 dX6_refusalOfSlide_65 rfl (lv_at hl 3 rfl) ?_
      refine lv_iadd (pc := 66) C0.1 C0.2.1 dX6_refusalOfSlide_66 ?_
      refine lv_topi (fun x102 ex102 => ?_)
      have hx102 : Int32.toInt x102 = Int32.toInt (i 4 1) + Int32.toInt y := by rw [ex102]; exact fb_addI (by omega) (by omega)
      refine lv_sipush (pc := 67) (v := 600) C0.1 C0.2.1 dX6_refusalOfSlide_67 (by decide) ?_
      refine lv_icmp_le (pc := 70) (tgt := 78) C0.1 C0.2.1 dX6_refusalOfSlide_70 (by decide) (fun c103 => ?_) (fun c103 => ?_)
      · have : Int32.toInt 600 = 600 := rfl
        have c103 := Int32.le_iff_toInt_le.mp c103
        refine lv_iconst (pc := 78) (v := 0) C0.1 C0.2.1 dX6_refusalOfSlide_78 (by decide) ?_
        exact xiret (pc := 79) C0 hr hH hS dX6_refusalOfSlide_79 ⟨rfl, fun _ => by rw [← h7]; exact ⟨by omega, by omega, by omega, by omega, by omega, by omega⟩⟩
      · have : Int32.toInt 600 = 600 := rfl
        have c103 : ¬ _ := fun q => c103 (Int32.le_iff_toInt_le.mpr q)
        refine lv_bipush (pc := 73) (v := (-4)) C0.1 C0.2.1 dX6_refusalOfSlide_73 (by decide) ?_
        refine lv_goto (pc := 75) (tgt := 79) C0.1 C0.2.1 dX6_refusalOfSlide_75 (by decide) ?_
        exact xiret (pc := 79) C0 hr hH hS dX6_refusalOfSlide_79 ⟨rfl, fun q => absurd q (by decide)⟩
    | succ d ih =>
      intro k q9 H locs ls h1 h2 h3 h4 h5 h6 h7 hH hS hl
      have rg_k := fb_rng k
      have rg_q9 := fb_rng q9
      refine lv_iload (pc := 32) C0.1 C0.2.1 dX6_refusalOfSlide_32 (lv_at hl 0 rfl) ?_
      refine lv_iload_n (pc := 34) C0.1 C0.2.1 dX6_refusalOfSlide_34 rfl (lv_at hl 3 rfl) ?_
      refine lv_ineg (pc := 35) C0.1 C0.2.1 dX6_refusalOfSlide_35 ?_
      refine lv_topi (fun x101 ex101 => ?_)
      have hx101 : Int32.toInt x101 = - Int32.toInt y := by rw [ex101]; exact fb_negI (by omega)
      refine lv_icmp_ge (pc := 36) (tgt := 61) C0.1 C0.2.1 dX6_refusalOfSlide_36 (by decide) (fun c102 => ?_) (fun c102 => ?_)
      · have c102 := Int32.le_iff_toInt_le.mp c102
        refine lv_aload_n (pc := 61) C0.1 C0.2.1 dX6_refusalOfSlide_61 rfl (lv_at hl 4 rfl) ?_
        refine xget (pc := 62) C0 hH 4 1 clX6 ⟨Nat.le_of_ble_eq_true rfl, Nat.le_of_ble_eq_true rfl⟩ ⟨rfl, rfl⟩ (Nat.le_of_ble_eq_true rfl) fl_X6_15 (v := .int (i 4 1)) rfl dX6_refusalOfSlide_62 ?_
        refine lv_iload_n (pc := 65) C0.1 C0.2.1 dX6_refusalOfSlide_65 rfl (lv_at hl 3 rfl) ?_
        refine lv_iadd (pc := 66) C0.1 C0.2.1 dX6_refusalOfSlide_66 ?_
        refine lv_topi (fun x103 ex103 => ?_)
        have hx103 : Int32.toInt x103 = Int32.toInt (i 4 1) + Int32.toInt y := by rw [ex103]; exact fb_addI (by omega) (by omega)
        refine lv_sipush (pc := 67) (v := 600) C0.1 C0.2.1 dX6_refusalOfSlide_67 (by decide) ?_
        refine lv_icmp_le (pc := 70) (tgt := 78) C0.1 C0.2.1 dX6_refusalOfSlide_70 (by decide) (fun c104 => ?_) (fun c104 => ?_)
        · have : Int32.toInt 600 = 600 := rfl
          have c104 := Int32.le_iff_toInt_le.mp c104
          refine lv_iconst (pc := 78) (v := 0) C0.1 C0.2.1 dX6_refusalOfSlide_78 (by decide) ?_
          exact xiret (pc := 79) C0 hr hH hS dX6_refusalOfSlide_79 ⟨rfl, fun _ => by rw [← h7]; exact ⟨by omega, by omega, by omega, by omega, by omega, by omega⟩⟩
        · have : Int32.toInt 600 = 600 := rfl
          have c104 : ¬ _ := fun q => c104 (Int32.le_iff_toInt_le.mpr q)
          refine lv_bipush (pc := 73) (v := (-4)) C0.1 C0.2.1 dX6_refusalOfSlide_73 (by decide) ?_
          refine lv_goto (pc := 75) (tgt := 79) C0.1 C0.2.1 dX6_refusalOfSlide_75 (by decide) ?_
          exact xiret (pc := 79) C0 hr hH hS dX6_refusalOfSlide_79 ⟨rfl, fun q => absurd q (by decide)⟩
      · have c102 : ¬ _ := fun q => c102 (Int32.le_iff_toInt_le.mpr q)
        refine lv_aload_n (pc := 39) C0.1 C0.2.1 dX6_refusalOfSlide_39 rfl (lv_at hl 4 rfl) ?_
        refine lv_iload_n (pc := 40) C0.1 C0.2.1 dX6_refusalOfSlide_40 rfl (lv_at hl 1 rfl) ?_
        refine lv_iload (pc := 41) C0.1 C0.2.1 dX6_refusalOfSlide_41 (lv_at hl 0 rfl) ?_
        refine lv_iadd (pc := 43) C0.1 C0.2.1 dX6_refusalOfSlide_43 ?_
        refine lv_topi (fun x105 ex105 => ?_)
        have hx105 : Int32.toInt x105 = Int32.toInt q9 + Int32.toInt k := by rw [ex105]; exact fb_addI (by omega) (by omega)
        refine xcVI (pc := 44) 4 [.int x105] (g_X6_at_4 l D tA b i F G x105 hsz) C0 hH hS clX6 rfl ⟨⟨Nat.le_of_ble_eq_true rfl, Nat.le_of_ble_eq_true rfl⟩, rfl, rfl⟩ cw_X6_37 rfl ⟨Nat.le_of_ble_eq_true rfl, Nat.le_of_ble_eq_true rfl⟩ hl.1 rfl (Nat.le_of_ble_eq_true rfl) dX6_refusalOfSlide_44 ⟨Nat.le_of_ble_eq_true rfl, Nat.le_of_ble_eq_true rfl⟩ (fun r106 ir106 Fr106 Gr106 _ locs hp hH hS => ?_)
        obtain ⟨hu, hpr106⟩ := hp
        cases hu
        refine lv_bipush (pc := 47) (v := 32) C0.1 C0.2.1 dX6_refusalOfSlide_47 (by decide) ?_
        refine lv_icmp_eq (pc := 49) (tgt := 55) C0.1 C0.2.1 dX6_refusalOfSlide_49 (by decide) (fun c107 => ?_) (fun c107 => ?_)
        · have : Int32.toInt 32 = 32 := rfl
          have c107 := congrArg Int32.toInt c107
          obtain ⟨x108, ex108⟩ : ∃ y_ : Int32, y_ = k + 1 := ⟨_, rfl⟩
          have : Int32.toInt 1 = 1 := rfl
          have hx108 : Int32.toInt x108 = Int32.toInt k + Int32.toInt 1 := by rw [ex108]; exact fb_addI (by omega) (by omega)
          refine lv_iinc (pc := 55) (v := x108) (lv' := [(4, .int x108), (3, .int q9), (1, .int x), (2, .int y), (0, .ref (b + 4))]) C0.1 C0.2.1 dX6_refusalOfSlide_55 hl (k := 0) rfl (by rw [ex108]; rfl) (by decide) rfl (fun ls hl => ?_)
          refine lv_goto (pc := 58) (tgt := 32) C0.1 C0.2.1 dX6_refusalOfSlide_58 (by decide) ?_
          exact ih x108 q9 _ _ _ (by omega) (by omega) h3 h4 (Or.inr (by omega)) (by omega) h7 hH hS (lv_sub hl [0, 1, 2, 3, 4] rfl)
        · have : Int32.toInt 32 = 32 := rfl
          have c107 : ¬ _ := fun q => c107 (Int32.toInt_inj.mp q)
          refine lv_bipush (pc := 52) (v := (-3)) C0.1 C0.2.1 dX6_refusalOfSlide_52 (by decide) ?_
          exact xiret (pc := 54) C0 hr hH hS dX6_refusalOfSlide_54 ⟨rfl, fun q => absurd q (by decide)⟩
  refine lv_aload_n (pc := 0) C0.1 C0.2.1 dX6_refusalOfSlide_0 rfl (lv_at hl 0 rfl) ?_
  refine lv_iload_n (pc := 1) C0.1 C0.2.1 dX6_refusalOfSlide_1 rfl (lv_at hl 1 rfl) ?_
  refine xcVI (pc := 2) 4 [.int x] (g_X6_startOf_4 l D tA b i F G x hsz) C0 hH hS clX6 rfl ⟨⟨Nat.le_of_ble_eq_true rfl, Nat.le_of_ble_eq_true rfl⟩, rfl, rfl⟩ cw_X6_52 rfl ⟨Nat.le_of_ble_eq_true rfl, Nat.le_of_ble_eq_true rfl⟩ hl.1 rfl (Nat.le_of_ble_eq_true rfl) dX6_refusalOfSlide_2 ⟨Nat.le_of_ble_eq_true rfl, Nat.le_of_ble_eq_true rfl⟩ (fun r1 ir1 Fr1 Gr1 _ locs hp hH hS => ?_)
  obtain ⟨hu, hpr1⟩ := hp
  cases hu
  refine lv_istore_n (pc := 5) (lv' := [(3, .int r1), (0, .ref (b + 4)), (1, .int x), (2, .int y)]) C0.1 C0.2.1 dX6_refusalOfSlide_5 rfl hl (by decide) rfl (fun ls hl => ?_)
  refine lv_iload_n (pc := 6) C0.1 C0.2.1 dX6_refusalOfSlide_6 rfl (lv_at hl 0 rfl) ?_
  refine lv_bipush (pc := 7) (v := (-9)) C0.1 C0.2.1 dX6_refusalOfSlide_7 (by decide) ?_
  refine lv_icmp_ne (pc := 9) (tgt := 14) C0.1 C0.2.1 dX6_refusalOfSlide_9 (by decide) (fun c2 => ?_) (fun c2 => ?_)
  · have : Int32.toInt (-9) = (-9) := rfl
    have c2 : ¬ _ := fun q => c2 (Int32.toInt_inj.mp q)
    refine lv_iload_n (pc := 14) C0.1 C0.2.1 dX6_refusalOfSlide_14 rfl (lv_at hl 3 rfl) ?_
    refine lv_bipush (pc := 15) (v := (-40)) C0.1 C0.2.1 dX6_refusalOfSlide_15 (by decide) ?_
    refine lv_icmp_lt (pc := 17) (tgt := 26) C0.1 C0.2.1 dX6_refusalOfSlide_17 (by decide) (fun c3 => ?_) (fun c3 => ?_)
    · have : Int32.toInt (-40) = (-40) := rfl
      have c3 := Int32.lt_iff_toInt_lt.mp c3
      refine lv_bipush (pc := 26) (v := (-2)) C0.1 C0.2.1 dX6_refusalOfSlide_26 (by decide) ?_
      exact xiret (pc := 28) C0 hr hH hS dX6_refusalOfSlide_28 ⟨rfl, fun q => absurd q (by decide)⟩
    · have : Int32.toInt (-40) = (-40) := rfl
      have c3 : ¬ _ := fun q => c3 (Int32.lt_iff_toInt_lt.mpr q)
      refine lv_iload_n (pc := 20) C0.1 C0.2.1 dX6_refusalOfSlide_20 rfl (lv_at hl 3 rfl) ?_
      refine lv_bipush (pc := 21) (v := 40) C0.1 C0.2.1 dX6_refusalOfSlide_21 (by decide) ?_
      refine lv_icmp_le (pc := 23) (tgt := 29) C0.1 C0.2.1 dX6_refusalOfSlide_23 (by decide) (fun c4 => ?_) (fun c4 => ?_)
      · have : Int32.toInt 40 = 40 := rfl
        have c4 := Int32.le_iff_toInt_le.mp c4
        refine lv_iconst (pc := 29) (v := 0) C0.1 C0.2.1 dX6_refusalOfSlide_29 (by decide) ?_
        refine lv_istore (pc := 30) (lv' := [(4, .int 0), (3, .int r1), (0, .ref (b + 4)), (1, .int x), (2, .int y)]) C0.1 C0.2.1 dX6_refusalOfSlide_30 hl (by decide) rfl (fun ls hl => ?_)
        exact LOOP 40 0 r1 _ _ _ (by have : Int32.toInt 0 = 0 := rfl; omega) (by have : Int32.toInt 0 = 0 := rfl; omega) (by have : Int32.toInt (-9) = -9 := rfl; have := hpr1.1; omega) (by omega) (Or.inl rfl) (by have : Int32.toInt 0 = 0 := rfl; omega) hpr1.2 hH hS (lv_sub hl [0, 1, 3, 4, 2] rfl)
      · have : Int32.toInt 40 = 40 := rfl
        have c4 : ¬ _ := fun q => c4 (Int32.le_iff_toInt_le.mpr q)
        refine lv_bipush (pc := 26) (v := (-2)) C0.1 C0.2.1 dX6_refusalOfSlide_26 (by decide) ?_
        exact xiret (pc := 28) C0 hr hH hS dX6_refusalOfSlide_28 ⟨rfl, fun q => absurd q (by decide)⟩
  · have : Int32.toInt (-9) = (-9) := rfl
    have c2 := congrArg Int32.toInt c2
    refine lv_iconst (pc := 12) (v := (-1)) C0.1 C0.2.1 dX6_refusalOfSlide_12 (by decide) ?_
    exact xiret (pc := 13) C0 hr hH hS dX6_refusalOfSlide_13 ⟨rfl, fun q => absurd q (by decide)⟩
