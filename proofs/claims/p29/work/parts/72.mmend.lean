set_option maxRecDepth 20000 in
theorem cw_X10_439 : CwV RX10 439 yX10_mends cX10_mends 3 (some .boolean) 2 := ⟨wm 1582 (by decide +kernel) rfl, wm 1584 (by decide +kernel) rfl, wms 83 (by decide +kernel) rfl, wm 11 (by decide +kernel) rfl, wm 1585 rfl rfl, by decide +kernel⟩
set_option maxRecDepth 20000 in
theorem fl_X10_436 : Cond.fieldLink RX10 436 (TX10 76).1 (TX10 76).2.1 (TX10 76).2.2.1 ∈ WALL := wm 1100 (by decide +kernel) rfl
theorem dX10_mends_0 : decode cX10_mends 0 = .ok (.aload_n 0, 1) := by decide +kernel
theorem dX10_mends_1 : decode cX10_mends 1 = .ok (.iload_n 1, 1) := by decide +kernel
theorem dX10_mends_2 : decode cX10_mends 2 = .ok (.iload_n 2, 1) := by decide +kernel
theorem dX10_mends_3 : decode cX10_mends 3 = .ok (.invokevirtual 234, 3) := by decide +kernel
theorem dX10_mends_6 : decode cX10_mends 6 = .ok (.ifCond .ge 5, 3) := by decide +kernel
theorem dX10_mends_11 : decode cX10_mends 11 = .ok (.aload_n 0, 1) := by decide +kernel
theorem dX10_mends_12 : decode cX10_mends 12 = .ok (.iload_n 1, 1) := by decide +kernel
theorem dX10_mends_13 : decode cX10_mends 13 = .ok (.iload_n 2, 1) := by decide +kernel
theorem dX10_mends_14 : decode cX10_mends 14 = .ok (.invokevirtual 238, 3) := by decide +kernel
theorem dX10_mends_17 : decode cX10_mends 17 = .ok (.aload_n 0, 1) := by decide +kernel
theorem dX10_mends_18 : decode cX10_mends 18 = .ok (.aload_n 0, 1) := by decide +kernel
theorem dX10_mends_19 : decode cX10_mends 19 = .ok (.getfield 29, 3) := by decide +kernel
theorem dX10_mends_22 : decode cX10_mends 22 = .ok (.aload_n 0, 1) := by decide +kernel
theorem dX10_mends_23 : decode cX10_mends 23 = .ok (.getfield 219, 3) := by decide +kernel
theorem dX10_mends_26 : decode cX10_mends 26 = .ok (.invokevirtual 346, 3) := by decide +kernel
theorem dX10_mends_29 : decode cX10_mends 29 = .ok (.ifCond .eq 5, 3) := by decide +kernel
theorem dX10_mends_34 : decode cX10_mends 34 = .ok (.aload_n 0, 1) := by decide +kernel
theorem dX10_mends_35 : decode cX10_mends 35 = .ok (.iload_n 1, 1) := by decide +kernel
theorem dX10_mends_36 : decode cX10_mends 36 = .ok (.iload_n 2, 1) := by decide +kernel
theorem dX10_mends_37 : decode cX10_mends 37 = .ok (.ineg, 1) := by decide +kernel
theorem dX10_mends_38 : decode cX10_mends 38 = .ok (.invokevirtual 238, 3) := by decide +kernel
theorem dX10_mends_41 : decode cX10_mends 41 = .ok (.iconst 0, 1) := by decide +kernel
theorem dX10_mends_42 : decode cX10_mends 42 = .ok (.ireturn, 1) := by decide +kernel
theorem dX10_mends_32 : decode cX10_mends 32 = .ok (.iconst 1, 1) := by decide +kernel
theorem dX10_mends_33 : decode cX10_mends 33 = .ok (.ireturn, 1) := by decide +kernel
theorem dX10_mends_9 : decode cX10_mends 9 = .ok (.iconst 0, 1) := by decide +kernel
theorem dX10_mends_10 : decode cX10_mends 10 = .ok (.ireturn, 1) := by decide +kernel
theorem dX10_mend_56 : decode cX10_mend 56 = .ok (.iload_n 2, 1) := by decide +kernel
theorem dX10_mend_57 : decode cX10_mend 57 = .ok (.iconst 5, 1) := by decide +kernel
theorem dX10_mend_58 : decode cX10_mend 58 = .ok (.if_icmp .ge 75, 3) := by decide +kernel
theorem dX10_mend_133 : decode cX10_mend 133 = .ok (.iconst 0, 1) := by decide +kernel
theorem dX10_mend_134 : decode cX10_mend 134 = .ok (.ireturn, 1) := by decide +kernel
theorem dX10_mend_63 : decode cX10_mend 63 = .ok (.iload_n 3, 1) := by decide +kernel
theorem dX10_mend_64 : decode cX10_mend 64 = .ok (.iload_n 1, 1) := by decide +kernel
theorem dX10_mend_65 : decode cX10_mend 65 = .ok (.if_icmp .ge 62, 3) := by decide +kernel
theorem dX10_mend_127 : decode cX10_mend 127 = .ok (.iinc 2 1, 3) := by decide +kernel
theorem dX10_mend_130 : decode cX10_mend 130 = .ok (.goto (-74), 3) := by decide +kernel
theorem dX10_mend_72 : decode cX10_mend 72 = .ok (.iload 4, 2) := by decide +kernel
theorem dX10_mend_74 : decode cX10_mend 74 = .ok (.iload_n 2, 1) := by decide +kernel
theorem dX10_mend_75 : decode cX10_mend 75 = .ok (.if_icmp .gt 46, 3) := by decide +kernel
theorem dX10_mend_121 : decode cX10_mend 121 = .ok (.iinc 3 1, 3) := by decide +kernel
theorem dX10_mend_124 : decode cX10_mend 124 = .ok (.goto (-61), 3) := by decide +kernel
theorem dX10_mend_78 : decode cX10_mend 78 = .ok (.aload_n 0, 1) := by decide +kernel
theorem dX10_mend_79 : decode cX10_mend 79 = .ok (.iload_n 3, 1) := by decide +kernel
theorem dX10_mend_80 : decode cX10_mend 80 = .ok (.iload 4, 2) := by decide +kernel
theorem dX10_mend_82 : decode cX10_mend 82 = .ok (.invokevirtual 439, 3) := by decide +kernel
theorem dX10_mend_85 : decode cX10_mend 85 = .ok (.ifCond .eq 25, 3) := by decide +kernel
theorem dX10_mend_110 : decode cX10_mend 110 = .ok (.iload 4, 2) := by decide +kernel
theorem dX10_mend_112 : decode cX10_mend 112 = .ok (.iconst 2, 1) := by decide +kernel
theorem dX10_mend_113 : decode cX10_mend 113 = .ok (.iload_n 2, 1) := by decide +kernel
theorem dX10_mend_114 : decode cX10_mend 114 = .ok (.imul, 1) := by decide +kernel
theorem dX10_mend_115 : decode cX10_mend 115 = .ok (.iadd, 1) := by decide +kernel
theorem dX10_mend_116 : decode cX10_mend 116 = .ok (.istore 4, 2) := by decide +kernel
theorem dX10_mend_118 : decode cX10_mend 118 = .ok (.goto (-46), 3) := by decide +kernel
theorem dX10_mend_88 : decode cX10_mend 88 = .ok (.aload_n 0, 1) := by decide +kernel
theorem dX10_mend_89 : decode cX10_mend 89 = .ok (.iconst 0, 1) := by decide +kernel
theorem dX10_mend_90 : decode cX10_mend 90 = .ok (.putfield 211, 3) := by decide +kernel
theorem dX10_mend_93 : decode cX10_mend 93 = .ok (.aload_n 0, 1) := by decide +kernel
theorem dX10_mend_94 : decode cX10_mend 94 = .ok (.getfield 163, 3) := by decide +kernel
theorem dX10_mend_97 : decode cX10_mend 97 = .ok (.iconst 0, 1) := by decide +kernel
theorem dX10_mend_98 : decode cX10_mend 98 = .ok (.iload_n 3, 1) := by decide +kernel
theorem dX10_mend_99 : decode cX10_mend 99 = .ok (.iastore, 1) := by decide +kernel
theorem dX10_mend_100 : decode cX10_mend 100 = .ok (.aload_n 0, 1) := by decide +kernel
theorem dX10_mend_101 : decode cX10_mend 101 = .ok (.getfield 163, 3) := by decide +kernel
theorem dX10_mend_104 : decode cX10_mend 104 = .ok (.iconst 1, 1) := by decide +kernel
theorem dX10_mend_105 : decode cX10_mend 105 = .ok (.iload 4, 2) := by decide +kernel
theorem dX10_mend_107 : decode cX10_mend 107 = .ok (.iastore, 1) := by decide +kernel
theorem dX10_mend_108 : decode cX10_mend 108 = .ok (.iconst 1, 1) := by decide +kernel
theorem dX10_mend_109 : decode cX10_mend 109 = .ok (.ireturn, 1) := by decide +kernel
theorem dX10_mend_68 : decode cX10_mend 68 = .ok (.iload_n 2, 1) := by decide +kernel
theorem dX10_mend_69 : decode cX10_mend 69 = .ok (.ineg, 1) := by decide +kernel
theorem dX10_mend_70 : decode cX10_mend 70 = .ok (.istore 4, 2) := by decide +kernel
theorem dX10_mend_61 : decode cX10_mend 61 = .ok (.iconst 0, 1) := by decide +kernel
theorem dX10_mend_62 : decode cX10_mend 62 = .ok (.istore_n 3, 1) := by decide +kernel
theorem dX10_mend_0 : decode cX10_mend 0 = .ok (.aload_n 0, 1) := by decide +kernel
theorem dX10_mend_1 : decode cX10_mend 1 = .ok (.getfield 211, 3) := by decide +kernel
theorem dX10_mend_4 : decode cX10_mend 4 = .ok (.iconst 2, 1) := by decide +kernel
theorem dX10_mend_5 : decode cX10_mend 5 = .ok (.if_icmp .eq 6, 3) := by decide +kernel
theorem dX10_mend_11 : decode cX10_mend 11 = .ok (.aload_n 0, 1) := by decide +kernel
theorem dX10_mend_12 : decode cX10_mend 12 = .ok (.getfield 436, 3) := by decide +kernel
theorem dX10_mend_15 : decode cX10_mend 15 = .ok (.bipush 30, 2) := by decide +kernel
theorem dX10_mend_17 : decode cX10_mend 17 = .ok (.if_icmp .ne 6, 3) := by decide +kernel
theorem dX10_mend_23 : decode cX10_mend 23 = .ok (.aload_n 0, 1) := by decide +kernel
theorem dX10_mend_24 : decode cX10_mend 24 = .ok (.dup, 1) := by decide +kernel
theorem dX10_mend_25 : decode cX10_mend 25 = .ok (.getfield 436, 3) := by decide +kernel
theorem dX10_mend_28 : decode cX10_mend 28 = .ok (.iconst 1, 1) := by decide +kernel
theorem dX10_mend_29 : decode cX10_mend 29 = .ok (.iadd, 1) := by decide +kernel
theorem dX10_mend_30 : decode cX10_mend 30 = .ok (.putfield 436, 3) := by decide +kernel
theorem dX10_mend_33 : decode cX10_mend 33 = .ok (.aload_n 0, 1) := by decide +kernel
theorem dX10_mend_34 : decode cX10_mend 34 = .ok (.getfield 163, 3) := by decide +kernel
theorem dX10_mend_37 : decode cX10_mend 37 = .ok (.iconst 0, 1) := by decide +kernel
theorem dX10_mend_38 : decode cX10_mend 38 = .ok (.bipush (-9), 2) := by decide +kernel
theorem dX10_mend_40 : decode cX10_mend 40 = .ok (.iastore, 1) := by decide +kernel
theorem dX10_mend_41 : decode cX10_mend 41 = .ok (.aload_n 0, 1) := by decide +kernel
theorem dX10_mend_42 : decode cX10_mend 42 = .ok (.getfield 163, 3) := by decide +kernel
theorem dX10_mend_45 : decode cX10_mend 45 = .ok (.iconst 1, 1) := by decide +kernel
theorem dX10_mend_46 : decode cX10_mend 46 = .ok (.bipush (-9), 2) := by decide +kernel
theorem dX10_mend_48 : decode cX10_mend 48 = .ok (.iastore, 1) := by decide +kernel
theorem dX10_mend_49 : decode cX10_mend 49 = .ok (.aload_n 0, 1) := by decide +kernel
theorem dX10_mend_50 : decode cX10_mend 50 = .ok (.invokevirtual 226, 3) := by decide +kernel
theorem dX10_mend_53 : decode cX10_mend 53 = .ok (.istore_n 1, 1) := by decide +kernel
theorem dX10_mend_54 : decode cX10_mend 54 = .ok (.iconst 1, 1) := by decide +kernel
theorem dX10_mend_55 : decode cX10_mend 55 = .ok (.istore_n 2, 1) := by decide +kernel
theorem dX10_mend_20 : decode cX10_mend 20 = .ok (.bipush (-4), 2) := by decide +kernel
theorem dX10_mend_22 : decode cX10_mend 22 = .ok (.ireturn, 1) := by decide +kernel
theorem dX10_mend_8 : decode cX10_mend 8 = .ok (.bipush (-3), 2) := by decide +kernel
theorem dX10_mend_10 : decode cX10_mend 10 = .ok (.ireturn, 1) := by decide +kernel
set_option maxHeartbeats 4000000 in
set_option maxRecDepth 100000 in
theorem m_mends (l : Launch) (D : va_G) (tA : Nat → ClassId) (b : Nat) (i F : Nat → Nat → Int32) (G : Nat → Nat → Int64) (x y : Int32) (hI : IMm i F) (hBR : BR i) (hst : (i 78 15).toInt = 2) (hln : x.toInt ≤ c10 (F 85) (Int32.toNatClampNeg (i 78 12))) (hy : -40 ≤ y.toInt ∧ y.toInt ≤ 40) : xMI l yX10_mends cX10_mends 3 (some .boolean) 6 145 D tA b 78 52 i F G [.ref (b + 78), .int x, .int y] (fun r u => IMm u.1 u.2.1 ∧ RO [11, 12, 13, 14, 15, 16, 17, 18, 19, 20, 21, 22, 23, 24, 25, 26, 27, 28, 29, 30, 31, 32, 33, 34, 35, 36, 37, 38, 39, 40, 41, 42, 43, 44, 45, 46, 47, 48, 49, 50, 51, 52, 53, 54, 55, 56, 57, 58, 59, 60, 61, 62, 63, 64, 65, 66, 67, 68, 69, 70, 71, 72, 73, 74, 75, 76, 77, 78] [85, 86, 87, 88, 89, 90, 91, 92, 93, 94, 95, 96, 97, 98, 99, 100, 101, 102, 103, 104, 105, 106, 107, 108, 109, 110, 111, 112, 113, 114, 115, 116, 117, 118, 119, 120, 121, 122, 123, 124, 125, 126, 127, 128, 129] i F G u ∧ (r = 0 ∨ r = 1) ∧ u.1 78 15 = i 78 15 ∧ (r = 0 → u.1 78 12 = i 78 12 ∧ ∀ j : Nat, (j : Int) < (i 78 12).toInt → u.2.1 85 j = F 85 j)) := by
  refine xstart RX10 rfl (by decide) (Nat.le_of_ble_eq_true rfl) ?_
  intro p e s m below meth c ls C0 hr hH hS hl
  have hl : lv_has ls 3 [(0, .ref (b + 78)), (1, .int x), (2, .int y)] := hl
  have rg_x := fb_rng x
  have rg_y := fb_rng y
  have hIs := hI.s
  have hL := IMs.lin hIs
  have hbt := hIs.bt

  refine lv_aload_n (pc := 0) C0.1 C0.2.1 dX10_mends_0 rfl (lv_at hl 0 rfl) ?_
  refine lv_iload_n (pc := 1) C0.1 C0.2.1 dX10_mends_1 rfl (lv_at hl 1 rfl) ?_
  refine lv_iload_n (pc := 2) C0.1 C0.2.1 dX10_mends_2 rfl (lv_at hl 2 rfl) ?_
  refine xcVI (pc := 3) 78 [.int x, .int y] (m_mayShift l D tA b i F G x y (show 0 ≤ Int32.toInt (i 78 12) ∧ Int32.toInt (i 78 12) ≤ 600 from by omega) hln (by omega)) C0 hH hS clX10 rfl ⟨⟨Nat.le_of_ble_eq_true rfl, Nat.le_of_ble_eq_true rfl⟩, rfl, rfl⟩ cw_X10_234 rfl ⟨Nat.le_of_ble_eq_true rfl, Nat.le_of_ble_eq_true rfl⟩ hl.1 rfl (Nat.le_of_ble_eq_true rfl) dX10_mends_3 ⟨Nat.le_of_ble_eq_true rfl, Nat.le_of_ble_eq_true rfl⟩ (fun r1 ir1 Fr1 Gr1 _ locs hp hH hS => ?_)
  obtain ⟨hu, hmsr1⟩ := hp
  cases hu
  refine lv_if_ge (pc := 6) (tgt := 11) C0.1 C0.2.1 dX10_mends_6 (by decide) (fun c2 => ?_) (fun c2 => ?_)
  · have : Int32.toInt 0 = 0 := rfl
    have c2 := Int32.le_iff_toInt_le.mp c2
    obtain ⟨r0, hr0, hla, hup, hdn0⟩ := hmsr1 (by have : Int32.toInt 0 = 0 := rfl; omega)
    have hdn := fun q => (hdn0 q).1
    have hbt := hIs.bt
    have hd2 : 0 ≤ y.toInt ∨ r0.toInt - y.toInt ≤ (i 78 12).toInt := if q : y.toInt < 0 then Or.inr (hdn q) else Or.inl (by omega)
    have hcr := clI (x := r0) hr0.1
    refine lv_aload_n (pc := 11) C0.1 C0.2.1 dX10_mends_11 rfl (lv_at hl 0 rfl) ?_
    refine lv_iload_n (pc := 12) C0.1 C0.2.1 dX10_mends_12 rfl (lv_at hl 1 rfl) ?_
    refine lv_iload_n (pc := 13) C0.1 C0.2.1 dX10_mends_13 rfl (lv_at hl 2 rfl) ?_
    refine xcVV (pc := 14) 78 [.int x, .int y] (m_move l D tA b i F G x y r0 (show 0 ≤ Int32.toInt (i 78 12) ∧ Int32.toInt (i 78 12) ≤ 600 from by omega) hln (by omega) hr0 hla hup hdn hbt) C0 hH hS clX10 rfl ⟨⟨Nat.le_of_ble_eq_true rfl, Nat.le_of_ble_eq_true rfl⟩, rfl, rfl⟩ cw_X10_238 rfl ⟨Nat.le_of_ble_eq_true rfl, Nat.le_of_ble_eq_true rfl⟩ hl.1 rfl (Nat.le_of_ble_eq_true rfl) dX10_mends_14 ⟨Nat.le_of_ble_eq_true rfl, Nat.le_of_ble_eq_true rfl⟩ (fun ir3 Fr3 Gr3 _ locs hp hH hS => ?_)
    obtain ⟨honr3, hszr3, htxr3, hbtr3⟩ := hp
    have hszr3 : (ir3 78 12).toInt = _ := hszr3
    have ek_14r3 : Int32.toInt (ir3 78 14) = Int32.toInt (i 78 14) := congrArg Int32.toInt (honr3.1 78 14 (Or.inr (by decide)))
    have ek_15r3 : Int32.toInt (ir3 78 15) = Int32.toInt (i 78 15) := congrArg Int32.toInt (honr3.1 78 15 (Or.inr (by decide)))
    have ek_54r3 : Int32.toInt (ir3 78 54) = Int32.toInt (i 78 54) := congrArg Int32.toInt (honr3.1 78 54 (Or.inr (by decide)))
    have ek_78r3 : Int32.toInt (ir3 78 78) = Int32.toInt (i 78 78) := congrArg Int32.toInt (honr3.1 78 78 (Or.inr (by decide)))
    have hT1 : Fr3 85 = mvf (F 85) (Int32.toNatClampNeg r0) y.toInt (i 78 12).toInt := htxr3
    have hS1 : (ir3 78 12).toInt = (i 78 12).toInt + y.toInt := hszr3
    have hIs : IMs 85 ir3 Fr3 := IMs.tx hIs (RO.tr RO.rf honr3 (by decide) (by decide)) (show 0 ≤ (ir3 78 12).toInt ∧ (ir3 78 12).toInt ≤ 600 from by omega) hbtr3 (Or.inl (honr3.1 78 15 (Or.inr (by decide))))
    have hL := IMs.lin hIs
    have hBR : BR ir3 := BR.ro hBR honr3 (by decide)
    refine lv_aload_n (pc := 17) C0.1 C0.2.1 dX10_mends_17 rfl (lv_at hl 0 rfl) ?_
    refine lv_aload_n (pc := 18) C0.1 C0.2.1 dX10_mends_18 rfl (lv_at hl 0 rfl) ?_
    refine xget (pc := 19) C0 hH 78 11 clX10 ⟨Nat.le_of_ble_eq_true rfl, Nat.le_of_ble_eq_true rfl⟩ ⟨rfl, rfl⟩ (Nat.le_of_ble_eq_true rfl) fl_X10_29 (v := .ref (b + 85)) rfl dX10_mends_19 ?_
    refine lv_aload_n (pc := 22) C0.1 C0.2.1 dX10_mends_22 rfl (lv_at hl 0 rfl) ?_
    refine xget (pc := 23) C0 hH 78 12 clX10 ⟨Nat.le_of_ble_eq_true rfl, Nat.le_of_ble_eq_true rfl⟩ ⟨rfl, rfl⟩ (Nat.le_of_ble_eq_true rfl) fl_X10_219 (v := .int (ir3 78 12)) rfl dX10_mends_23 ?_
    refine xcVI (pc := 26) 78 [.ref (b + 85), .int (ir3 78 12)] (m_readAll_85 l D tA b ir3 Fr3 Gr3 (ir3 78 12) (show 0 ≤ Int32.toInt (ir3 78 12) ∧ Int32.toInt (ir3 78 12) ≤ 600 from by omega) hIs.tk.2.1 hIs.cb hIs.wa hBR) C0 hH hS clX10 rfl ⟨⟨Nat.le_of_ble_eq_true rfl, Nat.le_of_ble_eq_true rfl⟩, rfl, rfl⟩ cw_X10_346 rfl ⟨Nat.le_of_ble_eq_true rfl, Nat.le_of_ble_eq_true rfl⟩ hl.1 rfl (Nat.le_of_ble_eq_true rfl) dX10_mends_26 ⟨Nat.le_of_ble_eq_true rfl, Nat.le_of_ble_eq_true rfl⟩ (fun r4 ir4 Fr4 Gr4 _ locs hp hH hS => ?_)
    obtain ⟨honr4, hTK0, hTM0, hCB0, h01r4, hplr4, hsr0, hgtr4⟩ := hp
    have hIs : IMs 85 ir4 Fr4 := IMs.ra (i := ir3) (F := Fr3) hIs honr4 (by decide) (by decide) hTK0 hTM0 hCB0 hsr0 (fun w => absurd w (by rw [show ir4 78 15 = _ from honr4.1 78 15 (Or.inr (by decide))]; show ¬ Int32.toInt (ir3 78 15) = 1; omega))
    have hBR : BR ir4 := BR.ro (i := ir3) (F := Fr3) hBR honr4 (by decide)
    have hL := IMs.lin hIs
    have ek_12r4 : Int32.toInt (ir4 78 12) = Int32.toInt (ir3 78 12) := congrArg Int32.toInt (honr4.1 78 12 (Or.inr (by decide)))
    have ek_14r4 : Int32.toInt (ir4 78 14) = Int32.toInt (ir3 78 14) := congrArg Int32.toInt (honr4.1 78 14 (Or.inr (by decide)))
    have ek_15r4 : Int32.toInt (ir4 78 15) = Int32.toInt (ir3 78 15) := congrArg Int32.toInt (honr4.1 78 15 (Or.inr (by decide)))
    have ek_54r4 : Int32.toInt (ir4 78 54) = Int32.toInt (ir3 78 54) := congrArg Int32.toInt (honr4.1 78 54 (Or.inr (by decide)))
    have ek_78r4 : Int32.toInt (ir4 78 78) = Int32.toInt (ir3 78 78) := congrArg Int32.toInt (honr4.1 78 78 (Or.inr (by decide)))
    refine lv_if_eq (pc := 29) (tgt := 34) C0.1 C0.2.1 dX10_mends_29 (by decide) (fun c5 => ?_) (fun c5 => ?_)
    · have : Int32.toInt 0 = 0 := rfl
      have c5 := congrArg Int32.toInt c5
      refine lv_aload_n (pc := 34) C0.1 C0.2.1 dX10_mends_34 rfl (lv_at hl 0 rfl) ?_
      refine lv_iload_n (pc := 35) C0.1 C0.2.1 dX10_mends_35 rfl (lv_at hl 1 rfl) ?_
      refine lv_iload_n (pc := 36) C0.1 C0.2.1 dX10_mends_36 rfl (lv_at hl 2 rfl) ?_
      refine lv_ineg (pc := 37) C0.1 C0.2.1 dX10_mends_37 ?_
      refine lv_topi (fun x6 ex6 => ?_)
      have hx6 : Int32.toInt x6 = - Int32.toInt y := by rw [ex6]; exact fb_negI (by omega)
      have e85 : Fr4 85 = Fr3 85 := (honr4.2 85 (by decide)).1
      have hla : LA (Fr4 85) x.toInt (Int32.toNatClampNeg r0) := by rw [e85, hT1]; exact LA.cg hla (fun j hj => (mvf_lo hj).symm)
      have hbt : BT (Fr4 85) := hIs.bt
      have hS2 : (ir4 78 12).toInt = (i 78 12).toInt + y.toInt := (congrArg Int32.toInt (honr4.1 78 12 (Or.inr (by decide)))).trans hS1
      have hc12 := clI (x := ir4 78 12) (by omega)
      have hln : x.toInt ≤ c10 (Fr4 85) (Int32.toNatClampNeg (ir4 78 12)) := LA.le hla (by omega)
      have hr0 : 0 ≤ r0.toInt ∧ r0.toInt ≤ (ir4 78 12).toInt := (by omega)
      have hup : (ir4 78 12).toInt + Int32.toInt x6 ≤ 600 := (by omega)
      have hdn : Int32.toInt x6 < 0 → r0.toInt - Int32.toInt x6 ≤ (ir4 78 12).toInt := fun _ => (by omega)
      refine xcVV (pc := 38) 78 [.int x, .int x6] (m_move l D tA b ir4 Fr4 Gr4 x x6 r0 (show 0 ≤ Int32.toInt (ir4 78 12) ∧ Int32.toInt (ir4 78 12) ≤ 600 from by omega) hln (by omega) hr0 hla hup hdn hbt) C0 hH hS clX10 rfl ⟨⟨Nat.le_of_ble_eq_true rfl, Nat.le_of_ble_eq_true rfl⟩, rfl, rfl⟩ cw_X10_238 rfl ⟨Nat.le_of_ble_eq_true rfl, Nat.le_of_ble_eq_true rfl⟩ hl.1 rfl (Nat.le_of_ble_eq_true rfl) dX10_mends_38 ⟨Nat.le_of_ble_eq_true rfl, Nat.le_of_ble_eq_true rfl⟩ (fun ir7 Fr7 Gr7 _ locs hp hH hS => ?_)
      obtain ⟨honr7, hszr7, htxr7, hbtr7⟩ := hp
      have hszr7 : (ir7 78 12).toInt = _ := hszr7
      have ek_14r7 : Int32.toInt (ir7 78 14) = Int32.toInt (ir4 78 14) := congrArg Int32.toInt (honr7.1 78 14 (Or.inr (by decide)))
      have ek_15r7 : Int32.toInt (ir7 78 15) = Int32.toInt (ir4 78 15) := congrArg Int32.toInt (honr7.1 78 15 (Or.inr (by decide)))
      have ek_54r7 : Int32.toInt (ir7 78 54) = Int32.toInt (ir4 78 54) := congrArg Int32.toInt (honr7.1 78 54 (Or.inr (by decide)))
      have ek_78r7 : Int32.toInt (ir7 78 78) = Int32.toInt (ir4 78 78) := congrArg Int32.toInt (honr7.1 78 78 (Or.inr (by decide)))
      have hT3 : Fr7 85 = mvf (Fr4 85) (Int32.toNatClampNeg r0) (Int32.toInt x6) (ir4 78 12).toInt := htxr7
      have hS3 : (ir7 78 12).toInt = (ir4 78 12).toInt + Int32.toInt x6 := hszr7
      have hBK : ∀ j : Nat, (j : Int) < (i 78 12).toInt → Fr7 85 j = F 85 j := by
        intro j hj
        rw [hT3, e85, hT1, hx6, hS2]
        exact mvf_back (by omega) (fun q => ⟨by have := (hdn0 q).1; omega, (hdn0 q).2⟩) j hj
      have hIs : IMs 85 ir7 Fr7 := IMs.tx hIs (RO.tr RO.rf honr7 (by decide) (by decide)) (show 0 ≤ (ir7 78 12).toInt ∧ (ir7 78 12).toInt ≤ 600 from by omega) hbtr7 (Or.inl (honr7.1 78 15 (Or.inr (by decide))))
      refine lv_iconst (pc := 41) (v := 0) C0.1 C0.2.1 dX10_mends_41 (by decide) ?_
      exact xzret (pc := 42) C0 hr hH hS dX10_mends_42 (by decide) ⟨hIs.m, (RO.tr (RO.tr (RO.tr RO.rf honr3 (by decide) (by decide)) honr4 (by decide) (by decide)) honr7 (by decide) (by decide)), Or.inl rfl, (honr7.1 78 15 (Or.inr (by decide))).trans ((honr4.1 78 15 (Or.inr (by decide))).trans (honr3.1 78 15 (Or.inr (by decide)))), fun _ => ⟨Int32.toInt_inj.mp (show (ir7 78 12).toInt = (i 78 12).toInt from by omega), hBK⟩⟩
    · have : Int32.toInt 0 = 0 := rfl
      have c5 : ¬ _ := fun q => c5 (Int32.toInt_inj.mp q)
      refine lv_iconst (pc := 32) (v := 1) C0.1 C0.2.1 dX10_mends_32 (by decide) ?_
      exact xzret (pc := 33) C0 hr hH hS dX10_mends_33 (by decide) ⟨hIs.m, (RO.tr (RO.tr RO.rf honr3 (by decide) (by decide)) honr4 (by decide) (by decide)), Or.inr rfl, (honr4.1 78 15 (Or.inr (by decide))).trans (honr3.1 78 15 (Or.inr (by decide))), fun q => absurd q (by decide)⟩
  · have : Int32.toInt 0 = 0 := rfl
    have c2 : ¬ _ := fun q => c2 (Int32.le_iff_toInt_le.mpr q)
    refine lv_iconst (pc := 9) (v := 0) C0.1 C0.2.1 dX10_mends_9 (by decide) ?_
    exact xzret (pc := 10) C0 hr hH hS dX10_mends_10 (by decide) ⟨hI, RO.rf, Or.inl rfl, rfl, fun _ => ⟨rfl, fun _ _ => rfl⟩⟩
set_option maxHeartbeats 4000000 in
set_option maxRecDepth 100000 in
theorem m_mend (l : Launch) (D : va_G) (tA : Nat → ClassId) (b : Nat) (i F : Nat → Nat → Int32) (G : Nat → Nat → Int64)  (hI : IMm i F) (hBR : BR i) : xMI l yX10_mend cX10_mend 5 (some .int) 7 167 D tA b 78 52 i F G [.ref (b + 78)] (fun r u => IMm u.1 u.2.1 ∧ RO [11, 12, 13, 14, 15, 16, 17, 18, 19, 20, 21, 22, 23, 24, 25, 26, 27, 28, 29, 30, 31, 32, 33, 34, 35, 36, 37, 38, 39, 40, 41, 42, 43, 44, 45, 46, 47, 48, 49, 50, 51, 52, 53, 54, 55, 56, 57, 58, 59, 60, 61, 62, 63, 64, 65, 66, 67, 68, 69, 70, 71, 72, 73, 74, 75, 76, 77, 78] [85, 86, 87, 88, 89, 90, 91, 92, 93, 94, 95, 96, 97, 98, 99, 100, 101, 102, 103, 104, 105, 106, 107, 108, 109, 110, 111, 112, 113, 114, 115, 116, 117, 118, 119, 120, 121, 122, 123, 124, 125, 126, 127, 128, 129] i F G u) := by
  refine xstart RX10 rfl (by decide) (Nat.le_of_ble_eq_true rfl) ?_
  intro p e s m below meth c ls C0 hr hH hS hl
  have hl : lv_has ls 5 [(0, .ref (b + 78))] := hl
  have hIs := hI.s
  have hL := IMs.lin hIs
  have L56 : ∀ (d : Nat) (fa al : Int32) (iv Fv : Nat → Nat → Int32) (Gv : Nat → Nat → Int64) (H : Heap) (locs : List Loc) (ls : Array Slot), (IMm iv Fv) → (RO [11, 12, 13, 14, 15, 16, 17, 18, 19, 20, 21, 22, 23, 24, 25, 26, 27, 28, 29, 30, 31, 32, 33, 34, 35, 36, 37, 38, 39, 40, 41, 42, 43, 44, 45, 46, 47, 48, 49, 50, 51, 52, 53, 54, 55, 56, 57, 58, 59, 60, 61, 62, 63, 64, 65, 66, 67, 68, 69, 70, 71, 72, 73, 74, 75, 76, 77, 78] [85, 86, 87, 88, 89, 90, 91, 92, 93, 94, 95, 96, 97, 98, 99, 100, 101, 102, 103, 104, 105, 106, 107, 108, 109, 110, 111, 112, 113, 114, 115, 116, 117, 118, 119, 120, 121, 122, 123, 124, 125, 126, 127, 128, 129] i F G (iv, Fv, Gv)) → ((iv 78 15).toInt = 2) → (iv 78 12 = i 78 12) → (∀ j : Nat, (j : Int) < (i 78 12).toInt → Fv 85 j = F 85 j) → (BR iv) → (al.toInt ≤ c10 (F 85) (Int32.toNatClampNeg (i 78 12)) + 1 ∧ al.toInt ≤ 601) → (1 ≤ fa.toInt ∧ fa.toInt ≤ 5) → (5 - fa.toInt ≤ d) → Hd D tA b 78 52 zz iv Fv Gv H → va_S (xA b 78 52) s.heap H locs → lv_has ls 5 [(2, .int fa), (1, .int al), (0, .ref (b + 78))] → W p l e (xR 7 167) s m ([.ref (b + 78)] : List Value).toArray below meth c H locs 0 0 (MQ below (va_Qi (fun r u => IMm u.1 u.2.1 ∧ RO [11, 12, 13, 14, 15, 16, 17, 18, 19, 20, 21, 22, 23, 24, 25, 26, 27, 28, 29, 30, 31, 32, 33, 34, 35, 36, 37, 38, 39, 40, 41, 42, 43, 44, 45, 46, 47, 48, 49, 50, 51, 52, 53, 54, 55, 56, 57, 58, 59, 60, 61, 62, 63, 64, 65, 66, 67, 68, 69, 70, 71, 72, 73, 74, 75, 76, 77, 78] [85, 86, 87, 88, 89, 90, 91, 92, 93, 94, 95, 96, 97, 98, 99, 100, 101, 102, 103, 104, 105, 106, 107, 108, 109, 110, 111, 112, 113, 114, 115, 116, 117, 118, 119, 120, 121, 122, 123, 124, 125, 126, 127, 128, 129] i F G u) (xB D tA b 78 52 zz) (xA b 78 52)) ([.ref (b + 78)] : List Value).toArray s 0 0 (xA b 78 52)) (F0 m 56 ls []) := by
    intro d
    induction d with
    | zero =>
      intro fa al iv Fv Gv H locs ls h1 h2 h3 h4 h5 h6 h7 h8 h9 hH hS hl
      have rg_fa := fb_rng fa
      have rg_al := fb_rng al
      have hI := h1
      have hst := h3
      have e12 := h4
      have hsame := h5
      have hBR := h6
      refine lv_iload_n (pc := 56) C0.1 C0.2.1 dX10_mend_56 rfl (lv_at hl 0 rfl) ?_
      refine lv_iconst (pc := 57) (v := 5) C0.1 C0.2.1 dX10_mend_57 (by decide) ?_
      have : Int32.toInt 5 = 5 := rfl
      refine lv_icmp_ge (pc := 58) (tgt := 133) C0.1 C0.2.1 dX10_mend_58 (by decide) (fun _ => ?_) (fun c => absurd (Int32.le_iff_toInt_le.mpr (by omega)) c)
      refine lv_iconst (pc := 133) (v := 0) C0.1 C0.2.1 dX10_mend_133 (by decide) ?_
      exact xiret (pc := 134) C0 hr hH hS dX10_mend_134 ⟨h1, h2⟩
    | succ d ih56 =>
      intro fa al iv Fv Gv H locs ls h1 h2 h3 h4 h5 h6 h7 h8 h9 hH hS hl
      have rg_fa := fb_rng fa
      have rg_al := fb_rng al
      have L63 : ∀ (d : Nat) (k : Int32) (iv Fv : Nat → Nat → Int32) (Gv : Nat → Nat → Int64) (H : Heap) (locs : List Loc) (ls : Array Slot), (IMm iv Fv) → (RO [11, 12, 13, 14, 15, 16, 17, 18, 19, 20, 21, 22, 23, 24, 25, 26, 27, 28, 29, 30, 31, 32, 33, 34, 35, 36, 37, 38, 39, 40, 41, 42, 43, 44, 45, 46, 47, 48, 49, 50, 51, 52, 53, 54, 55, 56, 57, 58, 59, 60, 61, 62, 63, 64, 65, 66, 67, 68, 69, 70, 71, 72, 73, 74, 75, 76, 77, 78] [85, 86, 87, 88, 89, 90, 91, 92, 93, 94, 95, 96, 97, 98, 99, 100, 101, 102, 103, 104, 105, 106, 107, 108, 109, 110, 111, 112, 113, 114, 115, 116, 117, 118, 119, 120, 121, 122, 123, 124, 125, 126, 127, 128, 129] i F G (iv, Fv, Gv)) → ((iv 78 15).toInt = 2) → (iv 78 12 = i 78 12) → (∀ j : Nat, (j : Int) < (i 78 12).toInt → Fv 85 j = F 85 j) → (BR iv) → (0 ≤ k.toInt ∧ k.toInt ≤ 601) → (al.toInt - k.toInt ≤ d) → (fa.toInt ≤ 4) → Hd D tA b 78 52 zz iv Fv Gv H → va_S (xA b 78 52) s.heap H locs → lv_has ls 5 [(3, .int k), (2, .int fa), (1, .int al), (0, .ref (b + 78))] → W p l e (xR 7 167) s m ([.ref (b + 78)] : List Value).toArray below meth c H locs 0 0 (MQ below (va_Qi (fun r u => IMm u.1 u.2.1 ∧ RO [11, 12, 13, 14, 15, 16, 17, 18, 19, 20, 21, 22, 23, 24, 25, 26, 27, 28, 29, 30, 31, 32, 33, 34, 35, 36, 37, 38, 39, 40, 41, 42, 43, 44, 45, 46, 47, 48, 49, 50, 51, 52, 53, 54, 55, 56, 57, 58, 59, 60, 61, 62, 63, 64, 65, 66, 67, 68, 69, 70, 71, 72, 73, 74, 75, 76, 77, 78] [85, 86, 87, 88, 89, 90, 91, 92, 93, 94, 95, 96, 97, 98, 99, 100, 101, 102, 103, 104, 105, 106, 107, 108, 109, 110, 111, 112, 113, 114, 115, 116, 117, 118, 119, 120, 121, 122, 123, 124, 125, 126, 127, 128, 129] i F G u) (xB D tA b 78 52 zz) (xA b 78 52)) ([.ref (b + 78)] : List Value).toArray s 0 0 (xA b 78 52)) (F0 m 63 ls []) := by
        intro d
        induction d with
        | zero =>
          intro k iv Fv Gv H locs ls g1 g2 g3 g4 g5 g6 g7 g8 g9 hH hS hl
          have rg_k := fb_rng k
          have hI := g1
          have hst := g3
          have e12 := g4
          have hsame := g5
          have hBR := g6
          refine lv_iload_n (pc := 63) C0.1 C0.2.1 dX10_mend_63 rfl (lv_at hl 0 rfl) ?_
          refine lv_iload_n (pc := 64) C0.1 C0.2.1 dX10_mend_64 rfl (lv_at hl 2 rfl) ?_
          refine lv_icmp_ge (pc := 65) (tgt := 127) C0.1 C0.2.1 dX10_mend_65 (by decide) (fun _ => ?_) (fun c => absurd (Int32.le_iff_toInt_le.mpr (by omega)) c)
          obtain ⟨x301, ex301⟩ : ∃ y_ : Int32, y_ = fa + 1 := ⟨_, rfl⟩
          have : Int32.toInt 1 = 1 := rfl
          have hx301 : Int32.toInt x301 = Int32.toInt fa + Int32.toInt 1 := by rw [ex301]; exact fb_addI (by omega) (by omega)
          refine lv_iinc (pc := 127) (v := x301) (lv' := [(2, .int x301), (3, .int k), (1, .int al), (0, .ref (b + 78))]) C0.1 C0.2.1 dX10_mend_127 hl (k := 1) rfl (by rw [ex301]; rfl) (by decide) rfl (fun ls hl => ?_)
          refine lv_goto (pc := 130) (tgt := 56) C0.1 C0.2.1 dX10_mend_130 (by decide) ?_
          exact ih56 x301 al iv Fv Gv _ _ _ g1 g2 g3 g4 g5 g6 h7 (by omega) (by omega) hH hS (lv_sub hl [0, 2, 3] rfl)
        | succ d ih63 =>
          intro k iv Fv Gv H locs ls g1 g2 g3 g4 g5 g6 g7 g8 g9 hH hS hl
          have rg_k := fb_rng k
          have L72 : ∀ (d : Nat) (y : Int32) (iv Fv : Nat → Nat → Int32) (Gv : Nat → Nat → Int64) (H : Heap) (locs : List Loc) (ls : Array Slot), (IMm iv Fv) → (RO [11, 12, 13, 14, 15, 16, 17, 18, 19, 20, 21, 22, 23, 24, 25, 26, 27, 28, 29, 30, 31, 32, 33, 34, 35, 36, 37, 38, 39, 40, 41, 42, 43, 44, 45, 46, 47, 48, 49, 50, 51, 52, 53, 54, 55, 56, 57, 58, 59, 60, 61, 62, 63, 64, 65, 66, 67, 68, 69, 70, 71, 72, 73, 74, 75, 76, 77, 78] [85, 86, 87, 88, 89, 90, 91, 92, 93, 94, 95, 96, 97, 98, 99, 100, 101, 102, 103, 104, 105, 106, 107, 108, 109, 110, 111, 112, 113, 114, 115, 116, 117, 118, 119, 120, 121, 122, 123, 124, 125, 126, 127, 128, 129] i F G (iv, Fv, Gv)) → ((iv 78 15).toInt = 2) → (iv 78 12 = i 78 12) → (∀ j : Nat, (j : Int) < (i 78 12).toInt → Fv 85 j = F 85 j) → (BR iv) → (- fa.toInt ≤ y.toInt ∧ y.toInt ≤ 3 * fa.toInt) → (fa.toInt - y.toInt + 1 ≤ d) → (k.toInt < al.toInt) → Hd D tA b 78 52 zz iv Fv Gv H → va_S (xA b 78 52) s.heap H locs → lv_has ls 5 [(4, .int y), (3, .int k), (2, .int fa), (1, .int al), (0, .ref (b + 78))] → W p l e (xR 7 167) s m ([.ref (b + 78)] : List Value).toArray below meth c H locs 0 0 (MQ below (va_Qi (fun r u => IMm u.1 u.2.1 ∧ RO [11, 12, 13, 14, 15, 16, 17, 18, 19, 20, 21, 22, 23, 24, 25, 26, 27, 28, 29, 30, 31, 32, 33, 34, 35, 36, 37, 38, 39, 40, 41, 42, 43, 44, 45, 46, 47, 48, 49, 50, 51, 52, 53, 54, 55, 56, 57, 58, 59, 60, 61, 62, 63, 64, 65, 66, 67, 68, 69, 70, 71, 72, 73, 74, 75, 76, 77, 78] [85, 86, 87, 88, 89, 90, 91, 92, 93, 94, 95, 96, 97, 98, 99, 100, 101, 102, 103, 104, 105, 106, 107, 108, 109, 110, 111, 112, 113, 114, 115, 116, 117, 118, 119, 120, 121, 122, 123, 124, 125, 126, 127, 128, 129] i F G u) (xB D tA b 78 52 zz) (xA b 78 52)) ([.ref (b + 78)] : List Value).toArray s 0 0 (xA b 78 52)) (F0 m 72 ls []) := by
            intro d
            induction d with
            | zero =>
              intro y iv Fv Gv H locs ls u1 u2 u3 u4 u5 u6 u7 u8 u9 hH hS hl
              have rg_y := fb_rng y
              have hI := u1
              have hst := u3
              have e12 := u4
              have hsame := u5
              have hBR := u6
              refine lv_iload (pc := 72) C0.1 C0.2.1 dX10_mend_72 (lv_at hl 0 rfl) ?_
              refine lv_iload_n (pc := 74) C0.1 C0.2.1 dX10_mend_74 rfl (lv_at hl 2 rfl) ?_
              refine lv_icmp_gt (pc := 75) (tgt := 121) C0.1 C0.2.1 dX10_mend_75 (by decide) (fun _ => ?_) (fun c => absurd (Int32.lt_iff_toInt_lt.mpr (by omega)) c)
              obtain ⟨x401, ex401⟩ : ∃ y_ : Int32, y_ = k + 1 := ⟨_, rfl⟩
              have : Int32.toInt 1 = 1 := rfl
              have hx401 : Int32.toInt x401 = Int32.toInt k + Int32.toInt 1 := by rw [ex401]; exact fb_addI (by omega) (by omega)
              refine lv_iinc (pc := 121) (v := x401) (lv' := [(3, .int x401), (4, .int y), (2, .int fa), (1, .int al), (0, .ref (b + 78))]) C0.1 C0.2.1 dX10_mend_121 hl (k := 1) rfl (by rw [ex401]; rfl) (by decide) rfl (fun ls hl => ?_)
              refine lv_goto (pc := 124) (tgt := 63) C0.1 C0.2.1 dX10_mend_124 (by decide) ?_
              exact ih63 x401 iv Fv Gv _ _ _ u1 u2 u3 u4 u5 u6 (by omega) (by omega) g9 hH hS (lv_sub hl [0, 2, 3, 4] rfl)
            | succ d ih72 =>
              intro y iv Fv Gv H locs ls u1 u2 u3 u4 u5 u6 u7 u8 u9 hH hS hl
              have rg_y := fb_rng y
              have hI := u1
              have hst := u3
              have e12 := u4
              have hsame := u5
              have hBR := u6
              refine lv_iload (pc := 72) C0.1 C0.2.1 dX10_mend_72 (lv_at hl 0 rfl) ?_
              refine lv_iload_n (pc := 74) C0.1 C0.2.1 dX10_mend_74 rfl (lv_at hl 2 rfl) ?_
              refine lv_icmp_gt (pc := 75) (tgt := 121) C0.1 C0.2.1 dX10_mend_75 (by decide) (fun c401 => ?_) (fun c401 => ?_)
              · have c401 := Int32.lt_iff_toInt_lt.mp c401
                obtain ⟨x402, ex402⟩ : ∃ y_ : Int32, y_ = k + 1 := ⟨_, rfl⟩
                have : Int32.toInt 1 = 1 := rfl
                have hx402 : Int32.toInt x402 = Int32.toInt k + Int32.toInt 1 := by rw [ex402]; exact fb_addI (by omega) (by omega)
                refine lv_iinc (pc := 121) (v := x402) (lv' := [(3, .int x402), (4, .int y), (2, .int fa), (1, .int al), (0, .ref (b + 78))]) C0.1 C0.2.1 dX10_mend_121 hl (k := 1) rfl (by rw [ex402]; rfl) (by decide) rfl (fun ls hl => ?_)
                refine lv_goto (pc := 124) (tgt := 63) C0.1 C0.2.1 dX10_mend_124 (by decide) ?_
                exact ih63 x402 iv Fv Gv _ _ _ u1 u2 u3 u4 u5 u6 (by omega) (by omega) g9 hH hS (lv_sub hl [0, 2, 3, 4] rfl)
              · have c401 : ¬ _ := fun q => c401 (Int32.lt_iff_toInt_lt.mpr q)
                have hc12 := clI (x := i 78 12) (by omega)
                have hln : k.toInt ≤ c10 (Fv 85) (Int32.toNatClampNeg (iv 78 12)) := by rw [e12, c10_agr (f := Fv 85) (g := F 85) (fun j hj => hsame j (by omega))]; omega
                refine lv_aload_n (pc := 78) C0.1 C0.2.1 dX10_mend_78 rfl (lv_at hl 4 rfl) ?_
                refine lv_iload_n (pc := 79) C0.1 C0.2.1 dX10_mend_79 rfl (lv_at hl 1 rfl) ?_
                refine lv_iload (pc := 80) C0.1 C0.2.1 dX10_mend_80 (lv_at hl 0 rfl) ?_
                refine xcVI (pc := 82) 78 [.int k, .int y] (m_mends l D tA b iv Fv Gv k y hI hBR hst hln (show -40 ≤ Int32.toInt y ∧ Int32.toInt y ≤ 40 from by omega)) C0 hH hS clX10 rfl ⟨⟨Nat.le_of_ble_eq_true rfl, Nat.le_of_ble_eq_true rfl⟩, rfl, rfl⟩ cw_X10_439 rfl ⟨Nat.le_of_ble_eq_true rfl, Nat.le_of_ble_eq_true rfl⟩ hl.1 rfl (Nat.le_of_ble_eq_true rfl) dX10_mend_82 ⟨Nat.le_of_ble_eq_true rfl, Nat.le_of_ble_eq_true rfl⟩ (fun r403 ir403 Fr403 Gr403 _ locs hp hH hS => ?_)
                obtain ⟨hI1, honr403, h01r403, h15r403, hbkr403⟩ := hp
                have hI1 : IMm ir403 Fr403 := hI1
                have h15r403 : ir403 78 15 = iv 78 15 := h15r403
                have hbkr403 : r403 = 0 → ir403 78 12 = iv 78 12 ∧ ∀ j : Nat, (j : Int) < (iv 78 12).toInt → Fr403 85 j = Fv 85 j := hbkr403
                have hBR : BR ir403 := BR.ro (i := iv) (F := Fv) hBR honr403 (by decide)
                refine lv_if_eq (pc := 85) (tgt := 110) C0.1 C0.2.1 dX10_mend_85 (by decide) (fun c404 => ?_) (fun c404 => ?_)
                · have : Int32.toInt 0 = 0 := rfl
                  have c404 := congrArg Int32.toInt c404
                  refine lv_iload (pc := 110) C0.1 C0.2.1 dX10_mend_110 (lv_at hl 0 rfl) ?_
                  refine lv_iconst (pc := 112) (v := 2) C0.1 C0.2.1 dX10_mend_112 (by decide) ?_
                  refine lv_iload_n (pc := 113) C0.1 C0.2.1 dX10_mend_113 rfl (lv_at hl 2 rfl) ?_
                  refine lv_imul (pc := 114) C0.1 C0.2.1 dX10_mend_114 ?_
                  refine lv_topi (fun x405 ex405 => ?_)
                  have hx405 : Int32.toInt x405 = 2 * Int32.toInt fa := by rw [ex405]; exact (fb_mulI (by rw [show Int32.toInt 2 = 2 from rfl]; omega) (by rw [show Int32.toInt 2 = 2 from rfl]; omega)).trans (by rw [show Int32.toInt 2 = 2 from rfl])
                  refine lv_iadd (pc := 115) C0.1 C0.2.1 dX10_mend_115 ?_
                  refine lv_topi (fun x406 ex406 => ?_)
                  have hx406 : Int32.toInt x406 = Int32.toInt y + Int32.toInt x405 := by rw [ex406]; exact fb_addI (by omega) (by omega)
                  refine lv_istore (pc := 116) (lv' := [(4, .int x406), (3, .int k), (2, .int fa), (1, .int al), (0, .ref (b + 78))]) C0.1 C0.2.1 dX10_mend_116 hl (by decide) rfl (fun ls hl => ?_)
                  refine lv_goto (pc := 118) (tgt := 72) C0.1 C0.2.1 dX10_mend_118 (by decide) ?_
                  exact ih72 x406 ir403 Fr403 Gr403 _ _ _ hI1 (RO.tr u2 honr403 (by decide) (by decide)) (by rw [h15r403]; exact hst) ((hbkr403 (by first | assumption | exact Int32.toInt_inj.mp (by assumption))).1.trans e12) (fun j hj => ((hbkr403 (by first | assumption | exact Int32.toInt_inj.mp (by assumption))).2 j (by rw [e12]; exact hj)).trans (hsame j hj)) hBR (by omega) (by omega) u9 hH hS (lv_sub hl [0, 1, 2, 3, 4] rfl)
                · have : Int32.toInt 0 = 0 := rfl
                  have c404 : ¬ _ := fun q => c404 (Int32.toInt_inj.mp q)
                  refine lv_aload_n (pc := 88) C0.1 C0.2.1 dX10_mend_88 rfl (lv_at hl 4 rfl) ?_
                  refine lv_iconst (pc := 89) (v := 0) C0.1 C0.2.1 dX10_mend_89 (by decide) ?_
                  refine xputI (pc := 90) C0 (Nat.le_of_ble_eq_true rfl) hH hS 78 15 clX10 ⟨Nat.le_of_ble_eq_true rfl, Nat.le_of_ble_eq_true rfl⟩ ⟨rfl, rfl⟩ ⟨Nat.le_of_ble_eq_true rfl, rfl, rfl⟩ fl_X10_211 (x := 0) ⟨rfl, rfl⟩ dX10_mend_90 (fun _ locs hH hS _ => ?_)
                  have hH : Hd D tA b 78 52 zz (up2 ir403 78 15 0) Fr403 Gr403 _ := hH
                  refine lv_aload_n (pc := 93) C0.1 C0.2.1 dX10_mend_93 rfl (lv_at hl 4 rfl) ?_
                  refine xget (pc := 94) C0 hH 78 75 clX10 ⟨Nat.le_of_ble_eq_true rfl, Nat.le_of_ble_eq_true rfl⟩ ⟨rfl, rfl⟩ (Nat.le_of_ble_eq_true rfl) fl_X10_163 (v := .ref (b + 128)) rfl dX10_mend_94 ?_
                  refine lv_iconst (pc := 97) (v := 0) C0.1 C0.2.1 dX10_mend_97 (by decide) ?_
                  refine lv_iload_n (pc := 98) C0.1 C0.2.1 dX10_mend_98 rfl (lv_at hl 1 rfl) ?_
                  have : Int32.toInt 0 = 0 := rfl
                  refine xiast (pc := 99) (N := 2) C0 (Nat.le_of_ble_eq_true rfl) hH hS 128 ⟨Nat.le_of_ble_eq_true rfl, Nat.le_of_ble_eq_true rfl⟩ ⟨rfl, rfl⟩ (vI (by omega) (by omega)) dX10_mend_99 (fun _ locs hH hS _ => ?_)
                  have hH : Hd D tA b 78 52 zz (up2 ir403 78 15 0) (va_up Fr403 128 (upd (Fr403 128) (Int32.toNatClampNeg 0) k)) Gr403 _ := hH
                  refine lv_aload_n (pc := 100) C0.1 C0.2.1 dX10_mend_100 rfl (lv_at hl 4 rfl) ?_
                  refine xget (pc := 101) C0 hH 78 75 clX10 ⟨Nat.le_of_ble_eq_true rfl, Nat.le_of_ble_eq_true rfl⟩ ⟨rfl, rfl⟩ (Nat.le_of_ble_eq_true rfl) fl_X10_163 (v := .ref (b + 128)) rfl dX10_mend_101 ?_
                  refine lv_iconst (pc := 104) (v := 1) C0.1 C0.2.1 dX10_mend_104 (by decide) ?_
                  refine lv_iload (pc := 105) C0.1 C0.2.1 dX10_mend_105 (lv_at hl 0 rfl) ?_
                  have : Int32.toInt 1 = 1 := rfl
                  refine xiast (pc := 107) (N := 2) C0 (Nat.le_of_ble_eq_true rfl) hH hS 128 ⟨Nat.le_of_ble_eq_true rfl, Nat.le_of_ble_eq_true rfl⟩ ⟨rfl, rfl⟩ (vI (by omega) (by omega)) dX10_mend_107 (fun _ locs hH hS _ => ?_)
                  have hH : Hd D tA b 78 52 zz (up2 ir403 78 15 0) (va_up (va_up Fr403 128 (upd (Fr403 128) (Int32.toNatClampNeg 0) k)) 128 (upd (upd (Fr403 128) (Int32.toNatClampNeg 0) k) (Int32.toNatClampNeg 1) y)) Gr403 _ := hH
                  refine lv_iconst (pc := 108) (v := 1) C0.1 C0.2.1 dX10_mend_108 (by decide) ?_
                  exact xiret (pc := 109) C0 hr hH hS dX10_mend_109 ⟨IMs.m (IMs.ro2 hI1.s (show RO [15] [128] ir403 Fr403 Gr403 ((up2 ir403 78 15 0), (va_up (va_up Fr403 128 (upd (Fr403 128) (Int32.toNatClampNeg 0) k)) 128 (upd (upd (Fr403 128) (Int32.toNatClampNeg 0) k) (Int32.toNatClampNeg 1) y)), Gr403) from (RO.f (RO.f (RO.i RO.rf (by decide)) (by decide)) (by decide))) (by decide) (by decide) (by decide) (Or.inr rfl)), (RO.f (RO.f (RO.i (RO.tr u2 honr403 (by decide) (by decide)) (by decide)) (by decide)) (by decide))⟩
          have hI := g1
          have hst := g3
          have e12 := g4
          have hsame := g5
          have hBR := g6
          refine lv_iload_n (pc := 63) C0.1 C0.2.1 dX10_mend_63 rfl (lv_at hl 0 rfl) ?_
          refine lv_iload_n (pc := 64) C0.1 C0.2.1 dX10_mend_64 rfl (lv_at hl 2 rfl) ?_
          refine lv_icmp_ge (pc := 65) (tgt := 127) C0.1 C0.2.1 dX10_mend_65 (by decide) (fun c301 => ?_) (fun c301 => ?_)
          · have c301 := Int32.le_iff_toInt_le.mp c301
            obtain ⟨x302, ex302⟩ : ∃ y_ : Int32, y_ = fa + 1 := ⟨_, rfl⟩
            have : Int32.toInt 1 = 1 := rfl
            have hx302 : Int32.toInt x302 = Int32.toInt fa + Int32.toInt 1 := by rw [ex302]; exact fb_addI (by omega) (by omega)
            refine lv_iinc (pc := 127) (v := x302) (lv' := [(2, .int x302), (3, .int k), (1, .int al), (0, .ref (b + 78))]) C0.1 C0.2.1 dX10_mend_127 hl (k := 1) rfl (by rw [ex302]; rfl) (by decide) rfl (fun ls hl => ?_)
            refine lv_goto (pc := 130) (tgt := 56) C0.1 C0.2.1 dX10_mend_130 (by decide) ?_
            exact ih56 x302 al iv Fv Gv _ _ _ g1 g2 g3 g4 g5 g6 h7 (by omega) (by omega) hH hS (lv_sub hl [0, 2, 3] rfl)
          · have c301 : ¬ _ := fun q => c301 (Int32.le_iff_toInt_le.mpr q)
            refine lv_iload_n (pc := 68) C0.1 C0.2.1 dX10_mend_68 rfl (lv_at hl 1 rfl) ?_
            refine lv_ineg (pc := 69) C0.1 C0.2.1 dX10_mend_69 ?_
            refine lv_topi (fun x303 ex303 => ?_)
            have hx303 : Int32.toInt x303 = - Int32.toInt fa := by rw [ex303]; exact fb_negI (by omega)
            refine lv_istore (pc := 70) (lv' := [(4, .int x303), (3, .int k), (2, .int fa), (1, .int al), (0, .ref (b + 78))]) C0.1 C0.2.1 dX10_mend_70 hl (by decide) rfl (fun ls hl => ?_)
            exact L72 9 x303 iv Fv Gv _ _ _ g1 g2 g3 g4 g5 g6 (by omega) (by omega) (by omega) hH hS (lv_sub hl [0, 1, 2, 3, 4] rfl)
      have hI := h1
      have hst := h3
      have e12 := h4
      have hsame := h5
      have hBR := h6
      refine lv_iload_n (pc := 56) C0.1 C0.2.1 dX10_mend_56 rfl (lv_at hl 0 rfl) ?_
      refine lv_iconst (pc := 57) (v := 5) C0.1 C0.2.1 dX10_mend_57 (by decide) ?_
      refine lv_icmp_ge (pc := 58) (tgt := 133) C0.1 C0.2.1 dX10_mend_58 (by decide) (fun c201 => ?_) (fun c201 => ?_)
      · have : Int32.toInt 5 = 5 := rfl
        have c201 := Int32.le_iff_toInt_le.mp c201
        refine lv_iconst (pc := 133) (v := 0) C0.1 C0.2.1 dX10_mend_133 (by decide) ?_
        exact xiret (pc := 134) C0 hr hH hS dX10_mend_134 ⟨h1, h2⟩
      · have : Int32.toInt 5 = 5 := rfl
        have c201 : ¬ _ := fun q => c201 (Int32.le_iff_toInt_le.mpr q)
        refine lv_iconst (pc := 61) (v := 0) C0.1 C0.2.1 dX10_mend_61 (by decide) ?_
        refine lv_istore_n (pc := 62) (lv' := [(3, .int 0), (2, .int fa), (1, .int al), (0, .ref (b + 78))]) C0.1 C0.2.1 dX10_mend_62 rfl hl (by decide) rfl (fun ls hl => ?_)
        exact L63 601 0 iv Fv Gv _ _ _ h1 h2 h3 h4 h5 h6 (by decide) (by have : Int32.toInt 0 = 0 := rfl; omega) (by omega) hH hS (lv_sub hl [0, 1, 2, 3] rfl)
  refine lv_aload_n (pc := 0) C0.1 C0.2.1 dX10_mend_0 rfl (lv_at hl 0 rfl) ?_
  refine xget (pc := 1) C0 hH 78 15 clX10 ⟨Nat.le_of_ble_eq_true rfl, Nat.le_of_ble_eq_true rfl⟩ ⟨rfl, rfl⟩ (Nat.le_of_ble_eq_true rfl) fl_X10_211 (v := .int (i 78 15)) rfl dX10_mend_1 ?_
  refine lv_iconst (pc := 4) (v := 2) C0.1 C0.2.1 dX10_mend_4 (by decide) ?_
  refine lv_icmp_eq (pc := 5) (tgt := 11) C0.1 C0.2.1 dX10_mend_5 (by decide) (fun c1 => ?_) (fun c1 => ?_)
  · have : Int32.toInt 2 = 2 := rfl
    have c1 := congrArg Int32.toInt c1
    have hst : (i 78 15).toInt = 2 := (by have : Int32.toInt 2 = 2 := rfl; omega)
    refine lv_aload_n (pc := 11) C0.1 C0.2.1 dX10_mend_11 rfl (lv_at hl 0 rfl) ?_
    refine xget (pc := 12) C0 hH 78 76 clX10 ⟨Nat.le_of_ble_eq_true rfl, Nat.le_of_ble_eq_true rfl⟩ ⟨rfl, rfl⟩ (Nat.le_of_ble_eq_true rfl) fl_X10_436 (v := .int (i 78 76)) rfl dX10_mend_12 ?_
    refine lv_bipush (pc := 15) (v := 30) C0.1 C0.2.1 dX10_mend_15 (by decide) ?_
    refine lv_icmp_ne (pc := 17) (tgt := 23) C0.1 C0.2.1 dX10_mend_17 (by decide) (fun c2 => ?_) (fun c2 => ?_)
    · have : Int32.toInt 30 = 30 := rfl
      have c2 : ¬ _ := fun q => c2 (Int32.toInt_inj.mp q)
      refine lv_aload_n (pc := 23) C0.1 C0.2.1 dX10_mend_23 rfl (lv_at hl 0 rfl) ?_
      refine lv_dup (pc := 24) C0.1 C0.2.1 dX10_mend_24 rfl ?_
      refine xget (pc := 25) C0 hH 78 76 clX10 ⟨Nat.le_of_ble_eq_true rfl, Nat.le_of_ble_eq_true rfl⟩ ⟨rfl, rfl⟩ (Nat.le_of_ble_eq_true rfl) fl_X10_436 (v := .int (i 78 76)) rfl dX10_mend_25 ?_
      refine lv_iconst (pc := 28) (v := 1) C0.1 C0.2.1 dX10_mend_28 (by decide) ?_
      refine lv_iadd (pc := 29) C0.1 C0.2.1 dX10_mend_29 ?_
      refine lv_topi (fun x3 ex3 => ?_)
      refine xputI (pc := 30) C0 (Nat.le_of_ble_eq_true rfl) hH hS 78 76 clX10 ⟨Nat.le_of_ble_eq_true rfl, Nat.le_of_ble_eq_true rfl⟩ ⟨rfl, rfl⟩ ⟨Nat.le_of_ble_eq_true rfl, rfl, rfl⟩ fl_X10_436 (x := x3) ⟨rfl, rfl⟩ dX10_mend_30 (fun _ locs hH hS _ => ?_)
      have hH : Hd D tA b 78 52 zz (up2 i 78 76 x3) F G _ := hH
      refine lv_aload_n (pc := 33) C0.1 C0.2.1 dX10_mend_33 rfl (lv_at hl 0 rfl) ?_
      refine xget (pc := 34) C0 hH 78 75 clX10 ⟨Nat.le_of_ble_eq_true rfl, Nat.le_of_ble_eq_true rfl⟩ ⟨rfl, rfl⟩ (Nat.le_of_ble_eq_true rfl) fl_X10_163 (v := .ref (b + 128)) rfl dX10_mend_34 ?_
      refine lv_iconst (pc := 37) (v := 0) C0.1 C0.2.1 dX10_mend_37 (by decide) ?_
      refine lv_bipush (pc := 38) (v := (-9)) C0.1 C0.2.1 dX10_mend_38 (by decide) ?_
      have : Int32.toInt 0 = 0 := rfl
      refine xiast (pc := 40) (N := 2) C0 (Nat.le_of_ble_eq_true rfl) hH hS 128 ⟨Nat.le_of_ble_eq_true rfl, Nat.le_of_ble_eq_true rfl⟩ ⟨rfl, rfl⟩ (vI (by omega) (by omega)) dX10_mend_40 (fun _ locs hH hS _ => ?_)
      have hH : Hd D tA b 78 52 zz (up2 i 78 76 x3) (va_up F 128 (upd (F 128) (Int32.toNatClampNeg 0) (-9))) G _ := hH
      refine lv_aload_n (pc := 41) C0.1 C0.2.1 dX10_mend_41 rfl (lv_at hl 0 rfl) ?_
      refine xget (pc := 42) C0 hH 78 75 clX10 ⟨Nat.le_of_ble_eq_true rfl, Nat.le_of_ble_eq_true rfl⟩ ⟨rfl, rfl⟩ (Nat.le_of_ble_eq_true rfl) fl_X10_163 (v := .ref (b + 128)) rfl dX10_mend_42 ?_
      refine lv_iconst (pc := 45) (v := 1) C0.1 C0.2.1 dX10_mend_45 (by decide) ?_
      refine lv_bipush (pc := 46) (v := (-9)) C0.1 C0.2.1 dX10_mend_46 (by decide) ?_
      have : Int32.toInt 1 = 1 := rfl
      refine xiast (pc := 48) (N := 2) C0 (Nat.le_of_ble_eq_true rfl) hH hS 128 ⟨Nat.le_of_ble_eq_true rfl, Nat.le_of_ble_eq_true rfl⟩ ⟨rfl, rfl⟩ (vI (by omega) (by omega)) dX10_mend_48 (fun _ locs hH hS _ => ?_)
      have hH : Hd D tA b 78 52 zz (up2 i 78 76 x3) (va_up (va_up F 128 (upd (F 128) (Int32.toNatClampNeg 0) (-9))) 128 (upd (upd (F 128) (Int32.toNatClampNeg 0) (-9)) (Int32.toNatClampNeg 1) (-9))) G _ := hH
      refine lv_aload_n (pc := 49) C0.1 C0.2.1 dX10_mend_49 rfl (lv_at hl 0 rfl) ?_
      refine xcVI (pc := 50) 78 [] (m_lines l D tA b (up2 i 78 76 x3) (va_up (va_up F 128 (upd (F 128) (Int32.toNatClampNeg 0) (-9))) 128 (upd (upd (F 128) (Int32.toNatClampNeg 0) (-9)) (Int32.toNatClampNeg 1) (-9))) G  (show 0 ≤ Int32.toInt (i 78 12) ∧ Int32.toInt (i 78 12) ≤ 600 from by omega)) C0 hH hS clX10 rfl ⟨⟨Nat.le_of_ble_eq_true rfl, Nat.le_of_ble_eq_true rfl⟩, rfl, rfl⟩ cw_X10_226 rfl ⟨Nat.le_of_ble_eq_true rfl, Nat.le_of_ble_eq_true rfl⟩ hl.1 rfl (Nat.le_of_ble_eq_true rfl) dX10_mend_50 ⟨Nat.le_of_ble_eq_true rfl, Nat.le_of_ble_eq_true rfl⟩ (fun r4 ir4 Fr4 Gr4 _ locs hp hH hS => ?_)
      obtain ⟨hu, hpr4⟩ := hp
      cases hu
      refine lv_istore_n (pc := 53) (lv' := [(1, .int r4), (0, .ref (b + 78))]) C0.1 C0.2.1 dX10_mend_53 rfl hl (by decide) rfl (fun ls hl => ?_)
      have hALB : Int32.toInt r4 ≤ c10 (F 85) (Int32.toNatClampNeg (i 78 12)) + 1 ∧ Int32.toInt r4 ≤ 601 := hpr4.2
      refine lv_iconst (pc := 54) (v := 1) C0.1 C0.2.1 dX10_mend_54 (by decide) ?_
      refine lv_istore_n (pc := 55) (lv' := [(2, .int 1), (1, .int r4), (0, .ref (b + 78))]) C0.1 C0.2.1 dX10_mend_55 rfl hl (by decide) rfl (fun ls hl => ?_)
      exact L56 4 1 r4 (up2 i 78 76 x3) (va_up (va_up F 128 (upd (F 128) (Int32.toNatClampNeg 0) (-9))) 128 (upd (upd (F 128) (Int32.toNatClampNeg 0) (-9)) (Int32.toNatClampNeg 1) (-9))) G _ _ _ (IMs.m (IMs.ro hIs (show RO [76] [128] i F G ((up2 i 78 76 x3), (va_up (va_up F 128 (upd (F 128) (Int32.toNatClampNeg 0) (-9))) 128 (upd (upd (F 128) (Int32.toNatClampNeg 0) (-9)) (Int32.toNatClampNeg 1) (-9))), G) from (RO.f (RO.f (RO.i RO.rf (by decide)) (by decide)) (by decide))) (by decide) (by decide) (by decide))) (RO.f (RO.f (RO.i RO.rf (by decide)) (by decide)) (by decide)) hst rfl (fun _ _ => rfl) (BR.ro hBR (show RO [76] [128] i F G ((up2 i 78 76 x3), (va_up (va_up F 128 (upd (F 128) (Int32.toNatClampNeg 0) (-9))) 128 (upd (upd (F 128) (Int32.toNatClampNeg 0) (-9)) (Int32.toNatClampNeg 1) (-9))), G) from (RO.f (RO.f (RO.i RO.rf (by decide)) (by decide)) (by decide))) (by decide)) hALB (by decide) (by decide) hH hS (lv_sub hl [0, 1, 2] rfl)
    · have : Int32.toInt 30 = 30 := rfl
      have c2 := congrArg Int32.toInt c2
      refine lv_bipush (pc := 20) (v := (-4)) C0.1 C0.2.1 dX10_mend_20 (by decide) ?_
      exact xiret (pc := 22) C0 hr hH hS dX10_mend_22 ⟨hI, RO.rf⟩
  · have : Int32.toInt 2 = 2 := rfl
    have c1 : ¬ _ := fun q => c1 (Int32.toInt_inj.mp q)
    refine lv_bipush (pc := 8) (v := (-3)) C0.1 C0.2.1 dX10_mend_8 (by decide) ?_
    exact xiret (pc := 10) C0 hr hH hS dX10_mend_10 ⟨hI, RO.rf⟩
