set_option maxRecDepth 20000 in
theorem cw_J7_13 : CwS RJ7 13 yJ7_rangeCheck_23922 cJ7_rangeCheck_23922 3 none 3 := ⟨wm 623 (by decide +kernel) rfl, wm 624 (by decide +kernel) rfl, wm 19 (by decide +kernel) rfl, wm 625 rfl rfl, by decide +kernel⟩
theorem dJ7_rangeCheck_23922_0 : decode cJ7_rangeCheck_23922 0 = .ok (.iload_n 1, 1) := by decide +kernel
theorem dJ7_rangeCheck_23922_1 : decode cJ7_rangeCheck_23922 1 = .ok (.iload_n 2, 1) := by decide +kernel
theorem dJ7_rangeCheck_23922_2 : decode cJ7_rangeCheck_23922 2 = .ok (.if_icmp .le 44, 3) := by decide +kernel
theorem dJ7_rangeCheck_23922_46 : decode cJ7_rangeCheck_23922 46 = .ok (.iload_n 1, 1) := by decide +kernel
theorem dJ7_rangeCheck_23922_47 : decode cJ7_rangeCheck_23922 47 = .ok (.ifCond .ge 12, 3) := by decide +kernel
theorem dJ7_rangeCheck_23922_59 : decode cJ7_rangeCheck_23922 59 = .ok (.iload_n 2, 1) := by decide +kernel
theorem dJ7_rangeCheck_23922_60 : decode cJ7_rangeCheck_23922 60 = .ok (.iload_n 0, 1) := by decide +kernel
theorem dJ7_rangeCheck_23922_61 : decode cJ7_rangeCheck_23922 61 = .ok (.if_icmp .le 12, 3) := by decide +kernel
theorem dJ7_rangeCheck_23922_73 : decode cJ7_rangeCheck_23922 73 = .ok (.return_, 1) := by decide +kernel
theorem dJ7_fill_eb02e_0 : decode cJ7_fill_eb02e 0 = .ok (.aload_n 0, 1) := by decide +kernel
theorem dJ7_fill_eb02e_1 : decode cJ7_fill_eb02e 1 = .ok (.arraylength, 1) := by decide +kernel
theorem dJ7_fill_eb02e_2 : decode cJ7_fill_eb02e 2 = .ok (.iload_n 1, 1) := by decide +kernel
theorem dJ7_fill_eb02e_3 : decode cJ7_fill_eb02e 3 = .ok (.iload_n 2, 1) := by decide +kernel
theorem dJ7_fill_eb02e_4 : decode cJ7_fill_eb02e 4 = .ok (.invokestatic 13, 3) := by decide +kernel
theorem dJ7_fill_eb02e_7 : decode cJ7_fill_eb02e 7 = .ok (.iload_n 1, 1) := by decide +kernel
theorem dJ7_fill_eb02e_8 : decode cJ7_fill_eb02e 8 = .ok (.istore 4, 2) := by decide +kernel
theorem dJ7_fill_eb02e_10 : decode cJ7_fill_eb02e 10 = .ok (.iload 4, 2) := by decide +kernel
theorem dJ7_fill_eb02e_12 : decode cJ7_fill_eb02e 12 = .ok (.iload_n 2, 1) := by decide +kernel
theorem dJ7_fill_eb02e_13 : decode cJ7_fill_eb02e 13 = .ok (.if_icmp .ge 14, 3) := by decide +kernel
theorem dJ7_fill_eb02e_27 : decode cJ7_fill_eb02e 27 = .ok (.return_, 1) := by decide +kernel
theorem dJ7_fill_eb02e_16 : decode cJ7_fill_eb02e 16 = .ok (.aload_n 0, 1) := by decide +kernel
theorem dJ7_fill_eb02e_17 : decode cJ7_fill_eb02e 17 = .ok (.iload 4, 2) := by decide +kernel
theorem dJ7_fill_eb02e_19 : decode cJ7_fill_eb02e 19 = .ok (.iload_n 3, 1) := by decide +kernel
theorem dJ7_fill_eb02e_20 : decode cJ7_fill_eb02e 20 = .ok (.bastore, 1) := by decide +kernel
theorem dJ7_fill_eb02e_21 : decode cJ7_fill_eb02e 21 = .ok (.iinc 4 1, 3) := by decide +kernel
theorem dJ7_fill_eb02e_24 : decode cJ7_fill_eb02e 24 = .ok (.goto (-14), 3) := by decide +kernel
set_option maxHeartbeats 4000000 in
set_option maxRecDepth 100000 in
theorem g_J7_rangeCheck (l : Launch) (D : va_G) (tA : Nat → ClassId) (b : Nat) (i F : Nat → Nat → Int32) (G : Nat → Nat → Int64) (x y : Int32) (h0 : 0 ≤ x.toInt ∧ x.toInt ≤ y.toInt ∧ y.toInt ≤ 600) : xMV l yJ7_rangeCheck_23922 cJ7_rangeCheck_23922 3 none 0 0 D tA b 0 78 i F G [.int (nI 600), .int x, .int y] (fun u => u = (i, F, G)) := by
  refine xstart RJ7 rfl (by decide) (Nat.le_of_ble_eq_true rfl) ?_
  intro p e s m below meth c ls C0 hr hH hS hl
  have hl : lv_has ls 3 [(0, .int (nI 600)), (1, .int x), (2, .int y)] := hl
  have rg_x := fb_rng x
  have rg_y := fb_rng y
  have h6 : Int32.toInt (nI 600) = 600 := rfl
  have h00 : Int32.toInt 0 = 0 := rfl
  refine lv_iload_n (pc := 0) C0.1 C0.2.1 dJ7_rangeCheck_23922_0 rfl (lv_at hl 1 rfl) ?_
  refine lv_iload_n (pc := 1) C0.1 C0.2.1 dJ7_rangeCheck_23922_1 rfl (lv_at hl 2 rfl) ?_
  refine lv_icmp_le (pc := 2) (tgt := 46) C0.1 C0.2.1 dJ7_rangeCheck_23922_2 (by decide) (fun _ => ?_) (fun c => absurd (Int32.le_iff_toInt_le.mpr (by omega)) c)
  refine lv_iload_n (pc := 46) C0.1 C0.2.1 dJ7_rangeCheck_23922_46 rfl (lv_at hl 1 rfl) ?_
  refine lv_if_ge (pc := 47) (tgt := 59) C0.1 C0.2.1 dJ7_rangeCheck_23922_47 (by decide) (fun _ => ?_) (fun c => absurd (Int32.le_iff_toInt_le.mpr (by omega)) c)
  refine lv_iload_n (pc := 59) C0.1 C0.2.1 dJ7_rangeCheck_23922_59 rfl (lv_at hl 2 rfl) ?_
  refine lv_iload_n (pc := 60) C0.1 C0.2.1 dJ7_rangeCheck_23922_60 rfl (lv_at hl 0 rfl) ?_
  refine lv_icmp_le (pc := 61) (tgt := 73) C0.1 C0.2.1 dJ7_rangeCheck_23922_61 (by decide) (fun _ => ?_) (fun c => absurd (Int32.le_iff_toInt_le.mpr (by omega)) c)
  exact xvret (pc := 73) C0 hr hH hS dJ7_rangeCheck_23922_73 rfl
set_option maxHeartbeats 4000000 in
set_option maxRecDepth 100000 in
theorem g_J7_fillB_5 (l : Launch) (D : va_G) (tA : Nat → ClassId) (b : Nat) (i F : Nat → Nat → Int32) (G : Nat → Nat → Int64) (x y z : Int32) (h0 : 0 ≤ x.toInt ∧ x.toInt ≤ y.toInt ∧ y.toInt ≤ 600) (hbf : ∀ j, fits .byte (.int (F 5 j)) = true) : xMV l yJ7_fill_eb02e cJ7_fill_eb02e 5 none 1 22 D tA b 0 78 i F G [.ref (b + 5), .int x, .int y, .int z] (fun u => On 5 6 i F G u ∧ ∀ j, fits .byte (.int (u.2.1 5 j)) = true) := by
  refine xstart RJ7 rfl (by decide) (Nat.le_of_ble_eq_true rfl) ?_
  intro p e s m below meth c ls C0 hr hH hS hl
  have hl : lv_has ls 5 [(0, .ref (b + 5)), (1, .int x), (2, .int y), (3, .int z)] := hl
  have rg_x := fb_rng x
  have rg_y := fb_rng y
  have rg_z := fb_rng z
  have LOOP : ∀ (d : Nat) (k : Int32) (Fv : Nat → Nat → Int32) (H : Heap) (locs : List Loc) (ls : Array Slot), (0 ≤ k.toInt ∧ k.toInt ≤ y.toInt) → (y.toInt - k.toInt ≤ d) → (On 5 6 i F G (i, Fv, G)) → (∀ j, fits .byte (.int (Fv 5 j)) = true) → Hd D tA b 0 78 zz i Fv G H → va_S (xA b 0 78) s.heap H locs → lv_has ls 5 [(4, .int k), (0, .ref (b + 5)), (1, .int x), (2, .int y), (3, .int z)] → W p l e (xR 1 22) s m ([.ref (b + 5), .int x, .int y, .int z] : List Value).toArray below meth c H locs 0 0 (MQ below (va_Qv (fun u => On 5 6 i F G u ∧ ∀ j, fits .byte (.int (u.2.1 5 j)) = true) (xB D tA b 0 78 zz) (xA b 0 78)) ([.ref (b + 5), .int x, .int y, .int z] : List Value).toArray s 0 0 (xA b 0 78)) (F0 m 10 ls []) := by
    intro d
    induction d with
    | zero =>
      intro k Fv H locs ls h1 h2 h3 h4 hH hS hl
      have rg_k := fb_rng k
      refine lv_iload (pc := 10) C0.1 C0.2.1 dJ7_fill_eb02e_10 (lv_at hl 0 rfl) ?_
      refine lv_iload_n (pc := 12) C0.1 C0.2.1 dJ7_fill_eb02e_12 rfl (lv_at hl 3 rfl) ?_
      refine lv_icmp_ge (pc := 13) (tgt := 27) C0.1 C0.2.1 dJ7_fill_eb02e_13 (by decide) (fun _ => ?_) (fun c => absurd (Int32.le_iff_toInt_le.mpr (by omega)) c)
      exact xvret (pc := 27) C0 hr hH hS dJ7_fill_eb02e_27 ⟨h3, h4⟩
    | succ d ih =>
      intro k Fv H locs ls h1 h2 h3 h4 hH hS hl
      have rg_k := fb_rng k
      refine lv_iload (pc := 10) C0.1 C0.2.1 dJ7_fill_eb02e_10 (lv_at hl 0 rfl) ?_
      refine lv_iload_n (pc := 12) C0.1 C0.2.1 dJ7_fill_eb02e_12 rfl (lv_at hl 3 rfl) ?_
      refine lv_icmp_ge (pc := 13) (tgt := 27) C0.1 C0.2.1 dJ7_fill_eb02e_13 (by decide) (fun c101 => ?_) (fun c101 => ?_)
      · have c101 := Int32.le_iff_toInt_le.mp c101
        exact xvret (pc := 27) C0 hr hH hS dJ7_fill_eb02e_27 ⟨h3, h4⟩
      · have c101 : ¬ _ := fun q => c101 (Int32.le_iff_toInt_le.mpr q)
        refine lv_aload_n (pc := 16) C0.1 C0.2.1 dJ7_fill_eb02e_16 rfl (lv_at hl 1 rfl) ?_
        refine lv_iload (pc := 17) C0.1 C0.2.1 dJ7_fill_eb02e_17 (lv_at hl 0 rfl) ?_
        refine lv_iload_n (pc := 19) C0.1 C0.2.1 dJ7_fill_eb02e_19 rfl (lv_at hl 4 rfl) ?_
        refine xbast (pc := 20) (N := 600) C0 (Nat.le_of_ble_eq_true rfl) hH hS 5 ⟨Nat.le_of_ble_eq_true rfl, Nat.le_of_ble_eq_true rfl⟩ ⟨rfl, rfl⟩ (vI (by omega) (by omega)) dJ7_fill_eb02e_20 (fun _ locs hH hS => ?_)
        have hH : Hd D tA b 0 78 zz i (va_up Fv 5 (upd (Fv 5) (Int32.toNatClampNeg k) (Int8.toInt32 (Int32.toInt8 z)))) G _ := hH
        obtain ⟨x102, ex102⟩ : ∃ y_ : Int32, y_ = k + 1 := ⟨_, rfl⟩
        have : Int32.toInt 1 = 1 := rfl
        have hx102 : Int32.toInt x102 = Int32.toInt k + Int32.toInt 1 := by rw [ex102]; exact fb_addI (by omega) (by omega)
        refine lv_iinc (pc := 21) (v := x102) (lv' := [(4, .int x102), (0, .ref (b + 5)), (1, .int x), (2, .int y), (3, .int z)]) C0.1 C0.2.1 dJ7_fill_eb02e_21 hl (k := 0) rfl (by rw [ex102]; rfl) (by decide) rfl (fun ls hl => ?_)
        refine lv_goto (pc := 24) (tgt := 10) C0.1 C0.2.1 dJ7_fill_eb02e_24 (by decide) ?_
        exact ih x102 _ _ _ _ (by omega) (by omega) (On.f h3 (by decide)) (bf_up h4) hH hS (lv_sub hl [0, 1, 2, 3, 4] rfl)
  refine lv_aload_n (pc := 0) C0.1 C0.2.1 dJ7_fill_eb02e_0 rfl (lv_at hl 0 rfl) ?_
  refine xalen (pc := 1) (N := 600) (t := 51) C0 hH 5 ⟨Nat.le_of_ble_eq_true rfl, Nat.le_of_ble_eq_true rfl⟩ ⟨rfl, rfl⟩ (by decide) dJ7_fill_eb02e_1 ?_
  refine lv_iload_n (pc := 2) C0.1 C0.2.1 dJ7_fill_eb02e_2 rfl (lv_at hl 1 rfl) ?_
  refine lv_iload_n (pc := 3) C0.1 C0.2.1 dJ7_fill_eb02e_3 rfl (lv_at hl 2 rfl) ?_
  refine xcSV (pc := 4) [.int (nI 600), .int x, .int y] (g_J7_rangeCheck l D tA b i F G x y h0) C0 hH hS cw_J7_13 rfl ⟨Nat.le_of_ble_eq_true rfl, Nat.le_of_ble_eq_true rfl⟩ hl.1 rfl (Nat.le_of_ble_eq_true rfl) dJ7_fill_eb02e_4 ⟨Nat.le_of_ble_eq_true rfl, Nat.le_of_ble_eq_true rfl⟩ (fun ir1 Fr1 Gr1 _ locs hp hH hS => ?_)
  cases hp
  refine lv_iload_n (pc := 7) C0.1 C0.2.1 dJ7_fill_eb02e_7 rfl (lv_at hl 1 rfl) ?_
  refine lv_istore (pc := 8) (lv' := [(4, .int x), (0, .ref (b + 5)), (1, .int x), (2, .int y), (3, .int z)]) C0.1 C0.2.1 dJ7_fill_eb02e_8 hl (by decide) rfl (fun ls hl => ?_)
  exact LOOP 600 x F _ _ _ (by omega) (by omega) On.rf hbf hH hS (lv_sub hl [0, 1, 2, 3, 4] rfl)
