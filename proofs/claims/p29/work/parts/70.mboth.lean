set_option maxRecDepth 20000 in
theorem fl_X10_418 : Cond.fieldLink RX10 418 (TX10 66).1 (TX10 66).2.1 (TX10 66).2.2.1 ∈ WALL := wm 1090 (by decide +kernel) rfl
set_option maxRecDepth 20000 in
theorem fl_X10_421 : Cond.fieldLink RX10 421 (TX10 67).1 (TX10 67).2.1 (TX10 67).2.2.1 ∈ WALL := wm 1091 (by decide +kernel) rfl
set_option maxRecDepth 20000 in
theorem fl_X10_424 : Cond.fieldLink RX10 424 (TX10 68).1 (TX10 68).2.1 (TX10 68).2.2.1 ∈ WALL := wm 1092 (by decide +kernel) rfl
theorem dX10_readBoth_119 : decode cX10_readBoth 119 = .ok (.iload_n 2, 1) := by decide +kernel
theorem dX10_readBoth_120 : decode cX10_readBoth 120 = .ok (.aload_n 0, 1) := by decide +kernel
theorem dX10_readBoth_121 : decode cX10_readBoth 121 = .ok (.getfield 281, 3) := by decide +kernel
theorem dX10_readBoth_124 : decode cX10_readBoth 124 = .ok (.if_icmp .ge 33, 3) := by decide +kernel
theorem dX10_readBoth_157 : decode cX10_readBoth 157 = .ok (.aload_n 0, 1) := by decide +kernel
theorem dX10_readBoth_158 : decode cX10_readBoth 158 = .ok (.aload_n 0, 1) := by decide +kernel
theorem dX10_readBoth_159 : decode cX10_readBoth 159 = .ok (.getfield 29, 3) := by decide +kernel
theorem dX10_readBoth_162 : decode cX10_readBoth 162 = .ok (.aload_n 0, 1) := by decide +kernel
theorem dX10_readBoth_163 : decode cX10_readBoth 163 = .ok (.getfield 219, 3) := by decide +kernel
theorem dX10_readBoth_166 : decode cX10_readBoth 166 = .ok (.invokevirtual 346, 3) := by decide +kernel
theorem dX10_readBoth_169 : decode cX10_readBoth 169 = .ok (.istore_n 2, 1) := by decide +kernel
theorem dX10_readBoth_170 : decode cX10_readBoth 170 = .ok (.iload_n 1, 1) := by decide +kernel
theorem dX10_readBoth_171 : decode cX10_readBoth 171 = .ok (.ireturn, 1) := by decide +kernel
theorem dX10_readBoth_127 : decode cX10_readBoth 127 = .ok (.aload_n 0, 1) := by decide +kernel
theorem dX10_readBoth_128 : decode cX10_readBoth 128 = .ok (.getfield 157, 3) := by decide +kernel
theorem dX10_readBoth_131 : decode cX10_readBoth 131 = .ok (.iload_n 2, 1) := by decide +kernel
theorem dX10_readBoth_132 : decode cX10_readBoth 132 = .ok (.aload_n 0, 1) := by decide +kernel
theorem dX10_readBoth_133 : decode cX10_readBoth 133 = .ok (.getfield 73, 3) := by decide +kernel
theorem dX10_readBoth_136 : decode cX10_readBoth 136 = .ok (.iload_n 2, 1) := by decide +kernel
theorem dX10_readBoth_137 : decode cX10_readBoth 137 = .ok (.iaload, 1) := by decide +kernel
theorem dX10_readBoth_138 : decode cX10_readBoth 138 = .ok (.iastore, 1) := by decide +kernel
theorem dX10_readBoth_139 : decode cX10_readBoth 139 = .ok (.aload_n 0, 1) := by decide +kernel
theorem dX10_readBoth_140 : decode cX10_readBoth 140 = .ok (.getfield 160, 3) := by decide +kernel
theorem dX10_readBoth_143 : decode cX10_readBoth 143 = .ok (.iload_n 2, 1) := by decide +kernel
theorem dX10_readBoth_144 : decode cX10_readBoth 144 = .ok (.aload_n 0, 1) := by decide +kernel
theorem dX10_readBoth_145 : decode cX10_readBoth 145 = .ok (.getfield 79, 3) := by decide +kernel
theorem dX10_readBoth_148 : decode cX10_readBoth 148 = .ok (.iload_n 2, 1) := by decide +kernel
theorem dX10_readBoth_149 : decode cX10_readBoth 149 = .ok (.iaload, 1) := by decide +kernel
theorem dX10_readBoth_150 : decode cX10_readBoth 150 = .ok (.iastore, 1) := by decide +kernel
theorem dX10_readBoth_151 : decode cX10_readBoth 151 = .ok (.iinc 2 1, 3) := by decide +kernel
theorem dX10_readBoth_154 : decode cX10_readBoth 154 = .ok (.goto (-35), 3) := by decide +kernel
theorem dX10_readBoth_91 : decode cX10_readBoth 91 = .ok (.iload_n 2, 1) := by decide +kernel
theorem dX10_readBoth_92 : decode cX10_readBoth 92 = .ok (.aload_n 0, 1) := by decide +kernel
theorem dX10_readBoth_93 : decode cX10_readBoth 93 = .ok (.getfield 287, 3) := by decide +kernel
theorem dX10_readBoth_96 : decode cX10_readBoth 96 = .ok (.if_icmp .ge 21, 3) := by decide +kernel
theorem dX10_readBoth_117 : decode cX10_readBoth 117 = .ok (.iconst 0, 1) := by decide +kernel
theorem dX10_readBoth_118 : decode cX10_readBoth 118 = .ok (.istore_n 2, 1) := by decide +kernel
theorem dX10_readBoth_99 : decode cX10_readBoth 99 = .ok (.aload_n 0, 1) := by decide +kernel
theorem dX10_readBoth_100 : decode cX10_readBoth 100 = .ok (.getfield 154, 3) := by decide +kernel
theorem dX10_readBoth_103 : decode cX10_readBoth 103 = .ok (.iload_n 2, 1) := by decide +kernel
theorem dX10_readBoth_104 : decode cX10_readBoth 104 = .ok (.aload_n 0, 1) := by decide +kernel
theorem dX10_readBoth_105 : decode cX10_readBoth 105 = .ok (.getfield 94, 3) := by decide +kernel
theorem dX10_readBoth_108 : decode cX10_readBoth 108 = .ok (.iload_n 2, 1) := by decide +kernel
theorem dX10_readBoth_109 : decode cX10_readBoth 109 = .ok (.iaload, 1) := by decide +kernel
theorem dX10_readBoth_110 : decode cX10_readBoth 110 = .ok (.iastore, 1) := by decide +kernel
theorem dX10_readBoth_111 : decode cX10_readBoth 111 = .ok (.iinc 2 1, 3) := by decide +kernel
theorem dX10_readBoth_114 : decode cX10_readBoth 114 = .ok (.goto (-23), 3) := by decide +kernel
theorem dX10_readBoth_39 : decode cX10_readBoth 39 = .ok (.iload_n 2, 1) := by decide +kernel
theorem dX10_readBoth_40 : decode cX10_readBoth 40 = .ok (.aload_n 0, 1) := by decide +kernel
theorem dX10_readBoth_41 : decode cX10_readBoth 41 = .ok (.getfield 258, 3) := by decide +kernel
theorem dX10_readBoth_44 : decode cX10_readBoth 44 = .ok (.if_icmp .ge 45, 3) := by decide +kernel
theorem dX10_readBoth_89 : decode cX10_readBoth 89 = .ok (.iconst 0, 1) := by decide +kernel
theorem dX10_readBoth_90 : decode cX10_readBoth 90 = .ok (.istore_n 2, 1) := by decide +kernel
theorem dX10_readBoth_47 : decode cX10_readBoth 47 = .ok (.aload_n 0, 1) := by decide +kernel
theorem dX10_readBoth_48 : decode cX10_readBoth 48 = .ok (.getfield 145, 3) := by decide +kernel
theorem dX10_readBoth_51 : decode cX10_readBoth 51 = .ok (.iload_n 2, 1) := by decide +kernel
theorem dX10_readBoth_52 : decode cX10_readBoth 52 = .ok (.aload_n 0, 1) := by decide +kernel
theorem dX10_readBoth_53 : decode cX10_readBoth 53 = .ok (.getfield 45, 3) := by decide +kernel
theorem dX10_readBoth_56 : decode cX10_readBoth 56 = .ok (.iload_n 2, 1) := by decide +kernel
theorem dX10_readBoth_57 : decode cX10_readBoth 57 = .ok (.iaload, 1) := by decide +kernel
theorem dX10_readBoth_58 : decode cX10_readBoth 58 = .ok (.iastore, 1) := by decide +kernel
theorem dX10_readBoth_59 : decode cX10_readBoth 59 = .ok (.aload_n 0, 1) := by decide +kernel
theorem dX10_readBoth_60 : decode cX10_readBoth 60 = .ok (.getfield 148, 3) := by decide +kernel
theorem dX10_readBoth_63 : decode cX10_readBoth 63 = .ok (.iload_n 2, 1) := by decide +kernel
theorem dX10_readBoth_64 : decode cX10_readBoth 64 = .ok (.aload_n 0, 1) := by decide +kernel
theorem dX10_readBoth_65 : decode cX10_readBoth 65 = .ok (.getfield 48, 3) := by decide +kernel
theorem dX10_readBoth_68 : decode cX10_readBoth 68 = .ok (.iload_n 2, 1) := by decide +kernel
theorem dX10_readBoth_69 : decode cX10_readBoth 69 = .ok (.iaload, 1) := by decide +kernel
theorem dX10_readBoth_70 : decode cX10_readBoth 70 = .ok (.iastore, 1) := by decide +kernel
theorem dX10_readBoth_71 : decode cX10_readBoth 71 = .ok (.aload_n 0, 1) := by decide +kernel
theorem dX10_readBoth_72 : decode cX10_readBoth 72 = .ok (.getfield 151, 3) := by decide +kernel
theorem dX10_readBoth_75 : decode cX10_readBoth 75 = .ok (.iload_n 2, 1) := by decide +kernel
theorem dX10_readBoth_76 : decode cX10_readBoth 76 = .ok (.aload_n 0, 1) := by decide +kernel
theorem dX10_readBoth_77 : decode cX10_readBoth 77 = .ok (.getfield 64, 3) := by decide +kernel
theorem dX10_readBoth_80 : decode cX10_readBoth 80 = .ok (.iload_n 2, 1) := by decide +kernel
theorem dX10_readBoth_81 : decode cX10_readBoth 81 = .ok (.iaload, 1) := by decide +kernel
theorem dX10_readBoth_82 : decode cX10_readBoth 82 = .ok (.iastore, 1) := by decide +kernel
theorem dX10_readBoth_83 : decode cX10_readBoth 83 = .ok (.iinc 2 1, 3) := by decide +kernel
theorem dX10_readBoth_86 : decode cX10_readBoth 86 = .ok (.goto (-47), 3) := by decide +kernel
theorem dX10_readBoth_0 : decode cX10_readBoth 0 = .ok (.aload_n 0, 1) := by decide +kernel
theorem dX10_readBoth_1 : decode cX10_readBoth 1 = .ok (.aload_n 0, 1) := by decide +kernel
theorem dX10_readBoth_2 : decode cX10_readBoth 2 = .ok (.getfield 33, 3) := by decide +kernel
theorem dX10_readBoth_5 : decode cX10_readBoth 5 = .ok (.aload_n 0, 1) := by decide +kernel
theorem dX10_readBoth_6 : decode cX10_readBoth 6 = .ok (.getfield 242, 3) := by decide +kernel
theorem dX10_readBoth_9 : decode cX10_readBoth 9 = .ok (.invokevirtual 346, 3) := by decide +kernel
theorem dX10_readBoth_12 : decode cX10_readBoth 12 = .ok (.istore_n 1, 1) := by decide +kernel
theorem dX10_readBoth_13 : decode cX10_readBoth 13 = .ok (.aload_n 0, 1) := by decide +kernel
theorem dX10_readBoth_14 : decode cX10_readBoth 14 = .ok (.aload_n 0, 1) := by decide +kernel
theorem dX10_readBoth_15 : decode cX10_readBoth 15 = .ok (.getfield 258, 3) := by decide +kernel
theorem dX10_readBoth_18 : decode cX10_readBoth 18 = .ok (.putfield 418, 3) := by decide +kernel
theorem dX10_readBoth_21 : decode cX10_readBoth 21 = .ok (.aload_n 0, 1) := by decide +kernel
theorem dX10_readBoth_22 : decode cX10_readBoth 22 = .ok (.aload_n 0, 1) := by decide +kernel
theorem dX10_readBoth_23 : decode cX10_readBoth 23 = .ok (.getfield 281, 3) := by decide +kernel
theorem dX10_readBoth_26 : decode cX10_readBoth 26 = .ok (.putfield 421, 3) := by decide +kernel
theorem dX10_readBoth_29 : decode cX10_readBoth 29 = .ok (.aload_n 0, 1) := by decide +kernel
theorem dX10_readBoth_30 : decode cX10_readBoth 30 = .ok (.aload_n 0, 1) := by decide +kernel
theorem dX10_readBoth_31 : decode cX10_readBoth 31 = .ok (.getfield 287, 3) := by decide +kernel
theorem dX10_readBoth_34 : decode cX10_readBoth 34 = .ok (.putfield 424, 3) := by decide +kernel
theorem dX10_readBoth_37 : decode cX10_readBoth 37 = .ok (.iconst 0, 1) := by decide +kernel
theorem dX10_readBoth_38 : decode cX10_readBoth 38 = .ok (.istore_n 2, 1) := by decide +kernel
set_option maxHeartbeats 4000000 in
set_option maxRecDepth 100000 in
theorem m_readBoth (l : Launch) (D : va_G) (tA : Nat → ClassId) (b : Nat) (i F : Nat → Nat → Int32) (G : Nat → Nat → Int64)  (hI : IMm i F) (hBR : BR i) (hGT : GTm i F) : xMI l yX10_readBoth cX10_readBoth 3 (some .boolean) 6 145 D tA b 78 52 i F G [.ref (b + 78)] (fun r u => IMm u.1 u.2.1 ∧ GTm u.1 u.2.1 ∧ RO [11, 12, 13, 14, 15, 16, 17, 18, 19, 20, 21, 22, 23, 24, 25, 26, 27, 28, 29, 30, 31, 32, 33, 34, 35, 36, 37, 38, 39, 40, 41, 42, 43, 44, 45, 46, 47, 48, 49, 50, 51, 52, 53, 54, 55, 56, 57, 58, 59, 60, 61, 62, 63, 64, 65, 66, 67, 68, 69, 70, 71, 72, 73, 74, 75, 76, 77, 78] [85, 86, 87, 88, 89, 90, 91, 92, 93, 94, 95, 96, 97, 98, 99, 100, 101, 102, 103, 104, 105, 106, 107, 108, 109, 110, 111, 112, 113, 114, 115, 116, 117, 118, 119, 120, 121, 122, 123, 124, 125, 126, 127, 128, 129] i F G u ∧ (r = 0 ∨ r = 1) ∧ u.1 78 15 = i 78 15) := by
  refine xstart RX10 rfl (by decide) (Nat.le_of_ble_eq_true rfl) ?_
  intro p e s m below meth c ls C0 hr hH hS hl
  have hl : lv_has ls 3 [(0, .ref (b + 78))] := hl
  have hIs := hI.s
  have hL := IMs.lin hIs
  have hGl := GTm.lin hGT
  have L119 : ∀ (d : Nat) (k gd : Int32) (iv Fv : Nat → Nat → Int32) (Gv : Nat → Nat → Int64) (H : Heap) (locs : List Loc) (ls : Array Slot), (IMs 86 iv Fv) → (GTm iv Fv) → (RO [11, 12, 13, 14, 15, 16, 17, 18, 19, 20, 21, 22, 23, 24, 25, 26, 27, 28, 29, 30, 31, 32, 33, 34, 35, 36, 37, 38, 39, 40, 41, 42, 43, 44, 45, 46, 47, 48, 49, 50, 51, 52, 53, 54, 55, 56, 57, 58, 59, 60, 61, 62, 63, 64, 65, 66, 67, 68, 69, 70, 71, 72, 73, 74, 75, 76, 77, 78] [85, 86, 87, 88, 89, 90, 91, 92, 93, 94, 95, 96, 97, 98, 99, 100, 101, 102, 103, 104, 105, 106, 107, 108, 109, 110, 111, 112, 113, 114, 115, 116, 117, 118, 119, 120, 121, 122, 123, 124, 125, 126, 127, 128, 129] i F G (iv, Fv, Gv)) → (BR iv) → (gd = 0 ∨ gd = 1) → (iv 78 15 = i 78 15) → (0 ≤ k.toInt) → ((iv 78 32).toInt - k.toInt ≤ d) → Hd D tA b 78 52 zz iv Fv Gv H → va_S (xA b 78 52) s.heap H locs → lv_has ls 3 [(2, .int k), (1, .int gd), (0, .ref (b + 78))] → W p l e (xR 6 145) s m ([.ref (b + 78)] : List Value).toArray below meth c H locs 0 0 (MQ below (va_Qi (fun r u => IMm u.1 u.2.1 ∧ GTm u.1 u.2.1 ∧ RO [11, 12, 13, 14, 15, 16, 17, 18, 19, 20, 21, 22, 23, 24, 25, 26, 27, 28, 29, 30, 31, 32, 33, 34, 35, 36, 37, 38, 39, 40, 41, 42, 43, 44, 45, 46, 47, 48, 49, 50, 51, 52, 53, 54, 55, 56, 57, 58, 59, 60, 61, 62, 63, 64, 65, 66, 67, 68, 69, 70, 71, 72, 73, 74, 75, 76, 77, 78] [85, 86, 87, 88, 89, 90, 91, 92, 93, 94, 95, 96, 97, 98, 99, 100, 101, 102, 103, 104, 105, 106, 107, 108, 109, 110, 111, 112, 113, 114, 115, 116, 117, 118, 119, 120, 121, 122, 123, 124, 125, 126, 127, 128, 129] i F G u ∧ (r = 0 ∨ r = 1) ∧ u.1 78 15 = i 78 15) (xB D tA b 78 52 zz) (xA b 78 52)) ([.ref (b + 78)] : List Value).toArray s 0 0 (xA b 78 52)) (F0 m 119 ls []) := by
    intro d
    induction d with
    | zero =>
      intro k gd iv Fv Gv H locs ls h1 h2 h3 h4 h5 h6 h7 h8 hH hS hl
      have rg_k := fb_rng k
      have rg_gd := fb_rng gd
      have hIs := h1
      have hGT := h2
      have hBR := h4
      have hL := IMs.lin h1
      have hGl := GTm.lin h2
      refine lv_iload_n (pc := 119) C0.1 C0.2.1 dX10_readBoth_119 rfl (lv_at hl 0 rfl) ?_
      refine lv_aload_n (pc := 120) C0.1 C0.2.1 dX10_readBoth_120 rfl (lv_at hl 2 rfl) ?_
      refine xget (pc := 121) C0 hH 78 32 clX10 ⟨Nat.le_of_ble_eq_true rfl, Nat.le_of_ble_eq_true rfl⟩ ⟨rfl, rfl⟩ (Nat.le_of_ble_eq_true rfl) fl_X10_281 (v := .int (iv 78 32)) rfl dX10_readBoth_121 ?_
      refine lv_icmp_ge (pc := 124) (tgt := 157) C0.1 C0.2.1 dX10_readBoth_124 (by decide) (fun _ => ?_) (fun c => absurd (Int32.le_iff_toInt_le.mpr (by omega)) c)
      refine lv_aload_n (pc := 157) C0.1 C0.2.1 dX10_readBoth_157 rfl (lv_at hl 2 rfl) ?_
      refine lv_aload_n (pc := 158) C0.1 C0.2.1 dX10_readBoth_158 rfl (lv_at hl 2 rfl) ?_
      refine xget (pc := 159) C0 hH 78 11 clX10 ⟨Nat.le_of_ble_eq_true rfl, Nat.le_of_ble_eq_true rfl⟩ ⟨rfl, rfl⟩ (Nat.le_of_ble_eq_true rfl) fl_X10_29 (v := .ref (b + 85)) rfl dX10_readBoth_159 ?_
      refine lv_aload_n (pc := 162) C0.1 C0.2.1 dX10_readBoth_162 rfl (lv_at hl 2 rfl) ?_
      refine xget (pc := 163) C0 hH 78 12 clX10 ⟨Nat.le_of_ble_eq_true rfl, Nat.le_of_ble_eq_true rfl⟩ ⟨rfl, rfl⟩ (Nat.le_of_ble_eq_true rfl) fl_X10_219 (v := .int (iv 78 12)) rfl dX10_readBoth_163 ?_
      refine xcVI (pc := 166) 78 [.ref (b + 85), .int (iv 78 12)] (m_readAll_85 l D tA b iv Fv Gv (iv 78 12) (show 0 ≤ Int32.toInt (iv 78 12) ∧ Int32.toInt (iv 78 12) ≤ 600 from by omega) hIs.tk.2.1 hIs.cb hIs.wa hBR) C0 hH hS clX10 rfl ⟨⟨Nat.le_of_ble_eq_true rfl, Nat.le_of_ble_eq_true rfl⟩, rfl, rfl⟩ cw_X10_346 rfl ⟨Nat.le_of_ble_eq_true rfl, Nat.le_of_ble_eq_true rfl⟩ hl.1 rfl (Nat.le_of_ble_eq_true rfl) dX10_readBoth_166 ⟨Nat.le_of_ble_eq_true rfl, Nat.le_of_ble_eq_true rfl⟩ (fun r201 ir201 Fr201 Gr201 _ locs hp hH hS => ?_)
      obtain ⟨honr201, hTK0, hTM0, hCB0, h01r201, hplr201, hsr0, hgtr201⟩ := hp
      have hGT : GTm ir201 Fr201 := GTm.ra (i := iv) (F := Fv) hGT hTM0 hgtr201
      have hIs : IMs 85 ir201 Fr201 := IMs.ra (i := iv) (F := Fv) hIs honr201 (by decide) (by decide) hTK0 hTM0 hCB0 hsr0 (fun _ => hGT)
      have hBR : BR ir201 := BR.ro (i := iv) (F := Fv) hBR honr201 (by decide)
      have hL := IMs.lin hIs
      have hGl := GTm.lin hGT
      have ek_12r201 : Int32.toInt (ir201 78 12) = Int32.toInt (iv 78 12) := congrArg Int32.toInt (honr201.1 78 12 (Or.inr (by decide)))
      have ek_14r201 : Int32.toInt (ir201 78 14) = Int32.toInt (iv 78 14) := congrArg Int32.toInt (honr201.1 78 14 (Or.inr (by decide)))
      have ek_15r201 : Int32.toInt (ir201 78 15) = Int32.toInt (iv 78 15) := congrArg Int32.toInt (honr201.1 78 15 (Or.inr (by decide)))
      have ek_54r201 : Int32.toInt (ir201 78 54) = Int32.toInt (iv 78 54) := congrArg Int32.toInt (honr201.1 78 54 (Or.inr (by decide)))
      have ek_78r201 : Int32.toInt (ir201 78 78) = Int32.toInt (iv 78 78) := congrArg Int32.toInt (honr201.1 78 78 (Or.inr (by decide)))
      refine lv_istore_n (pc := 169) (lv' := [(2, .int r201), (1, .int gd), (0, .ref (b + 78))]) C0.1 C0.2.1 dX10_readBoth_169 rfl hl (by decide) rfl (fun ls hl => ?_)
      refine lv_iload_n (pc := 170) C0.1 C0.2.1 dX10_readBoth_170 rfl (lv_at hl 1 rfl) ?_
      exact xzret (pc := 171) C0 hr hH hS dX10_readBoth_171 h5 ⟨hIs.m, hGT, (RO.tr h3 honr201 (by decide) (by decide)), h5, (honr201.1 78 15 (Or.inr (by decide))).trans h6⟩
    | succ d ih119 =>
      intro k gd iv Fv Gv H locs ls h1 h2 h3 h4 h5 h6 h7 h8 hH hS hl
      have rg_k := fb_rng k
      have rg_gd := fb_rng gd
      have hIs := h1
      have hGT := h2
      have hBR := h4
      have hL := IMs.lin h1
      have hGl := GTm.lin h2
      refine lv_iload_n (pc := 119) C0.1 C0.2.1 dX10_readBoth_119 rfl (lv_at hl 0 rfl) ?_
      refine lv_aload_n (pc := 120) C0.1 C0.2.1 dX10_readBoth_120 rfl (lv_at hl 2 rfl) ?_
      refine xget (pc := 121) C0 hH 78 32 clX10 ⟨Nat.le_of_ble_eq_true rfl, Nat.le_of_ble_eq_true rfl⟩ ⟨rfl, rfl⟩ (Nat.le_of_ble_eq_true rfl) fl_X10_281 (v := .int (iv 78 32)) rfl dX10_readBoth_121 ?_
      refine lv_icmp_ge (pc := 124) (tgt := 157) C0.1 C0.2.1 dX10_readBoth_124 (by decide) (fun c201 => ?_) (fun c201 => ?_)
      · have c201 := Int32.le_iff_toInt_le.mp c201
        refine lv_aload_n (pc := 157) C0.1 C0.2.1 dX10_readBoth_157 rfl (lv_at hl 2 rfl) ?_
        refine lv_aload_n (pc := 158) C0.1 C0.2.1 dX10_readBoth_158 rfl (lv_at hl 2 rfl) ?_
        refine xget (pc := 159) C0 hH 78 11 clX10 ⟨Nat.le_of_ble_eq_true rfl, Nat.le_of_ble_eq_true rfl⟩ ⟨rfl, rfl⟩ (Nat.le_of_ble_eq_true rfl) fl_X10_29 (v := .ref (b + 85)) rfl dX10_readBoth_159 ?_
        refine lv_aload_n (pc := 162) C0.1 C0.2.1 dX10_readBoth_162 rfl (lv_at hl 2 rfl) ?_
        refine xget (pc := 163) C0 hH 78 12 clX10 ⟨Nat.le_of_ble_eq_true rfl, Nat.le_of_ble_eq_true rfl⟩ ⟨rfl, rfl⟩ (Nat.le_of_ble_eq_true rfl) fl_X10_219 (v := .int (iv 78 12)) rfl dX10_readBoth_163 ?_
        refine xcVI (pc := 166) 78 [.ref (b + 85), .int (iv 78 12)] (m_readAll_85 l D tA b iv Fv Gv (iv 78 12) (show 0 ≤ Int32.toInt (iv 78 12) ∧ Int32.toInt (iv 78 12) ≤ 600 from by omega) hIs.tk.2.1 hIs.cb hIs.wa hBR) C0 hH hS clX10 rfl ⟨⟨Nat.le_of_ble_eq_true rfl, Nat.le_of_ble_eq_true rfl⟩, rfl, rfl⟩ cw_X10_346 rfl ⟨Nat.le_of_ble_eq_true rfl, Nat.le_of_ble_eq_true rfl⟩ hl.1 rfl (Nat.le_of_ble_eq_true rfl) dX10_readBoth_166 ⟨Nat.le_of_ble_eq_true rfl, Nat.le_of_ble_eq_true rfl⟩ (fun r202 ir202 Fr202 Gr202 _ locs hp hH hS => ?_)
        obtain ⟨honr202, hTK0, hTM0, hCB0, h01r202, hplr202, hsr0, hgtr202⟩ := hp
        have hGT : GTm ir202 Fr202 := GTm.ra (i := iv) (F := Fv) hGT hTM0 hgtr202
        have hIs : IMs 85 ir202 Fr202 := IMs.ra (i := iv) (F := Fv) hIs honr202 (by decide) (by decide) hTK0 hTM0 hCB0 hsr0 (fun _ => hGT)
        have hBR : BR ir202 := BR.ro (i := iv) (F := Fv) hBR honr202 (by decide)
        have hL := IMs.lin hIs
        have hGl := GTm.lin hGT
        have ek_12r202 : Int32.toInt (ir202 78 12) = Int32.toInt (iv 78 12) := congrArg Int32.toInt (honr202.1 78 12 (Or.inr (by decide)))
        have ek_14r202 : Int32.toInt (ir202 78 14) = Int32.toInt (iv 78 14) := congrArg Int32.toInt (honr202.1 78 14 (Or.inr (by decide)))
        have ek_15r202 : Int32.toInt (ir202 78 15) = Int32.toInt (iv 78 15) := congrArg Int32.toInt (honr202.1 78 15 (Or.inr (by decide)))
        have ek_54r202 : Int32.toInt (ir202 78 54) = Int32.toInt (iv 78 54) := congrArg Int32.toInt (honr202.1 78 54 (Or.inr (by decide)))
        have ek_78r202 : Int32.toInt (ir202 78 78) = Int32.toInt (iv 78 78) := congrArg Int32.toInt (honr202.1 78 78 (Or.inr (by decide)))
        refine lv_istore_n (pc := 169) (lv' := [(2, .int r202), (1, .int gd), (0, .ref (b + 78))]) C0.1 C0.2.1 dX10_readBoth_169 rfl hl (by decide) rfl (fun ls hl => ?_)
        refine lv_iload_n (pc := 170) C0.1 C0.2.1 dX10_readBoth_170 rfl (lv_at hl 1 rfl) ?_
        exact xzret (pc := 171) C0 hr hH hS dX10_readBoth_171 h5 ⟨hIs.m, hGT, (RO.tr h3 honr202 (by decide) (by decide)), h5, (honr202.1 78 15 (Or.inr (by decide))).trans h6⟩
      · have c201 : ¬ _ := fun q => c201 (Int32.le_iff_toInt_le.mpr q)
        refine lv_aload_n (pc := 127) C0.1 C0.2.1 dX10_readBoth_127 rfl (lv_at hl 2 rfl) ?_
        refine xget (pc := 128) C0 hH 78 73 clX10 ⟨Nat.le_of_ble_eq_true rfl, Nat.le_of_ble_eq_true rfl⟩ ⟨rfl, rfl⟩ (Nat.le_of_ble_eq_true rfl) fl_X10_157 (v := .ref (b + 126)) rfl dX10_readBoth_128 ?_
        refine lv_iload_n (pc := 131) C0.1 C0.2.1 dX10_readBoth_131 rfl (lv_at hl 0 rfl) ?_
        refine lv_aload_n (pc := 132) C0.1 C0.2.1 dX10_readBoth_132 rfl (lv_at hl 2 rfl) ?_
        refine xget (pc := 133) C0 hH 78 33 clX10 ⟨Nat.le_of_ble_eq_true rfl, Nat.le_of_ble_eq_true rfl⟩ ⟨rfl, rfl⟩ (Nat.le_of_ble_eq_true rfl) fl_X10_73 (v := .ref (b + 98)) rfl dX10_readBoth_133 ?_
        refine lv_iload_n (pc := 136) C0.1 C0.2.1 dX10_readBoth_136 rfl (lv_at hl 0 rfl) ?_
        refine xiald (pc := 137) (N := 1202) C0 hH 98 ⟨Nat.le_of_ble_eq_true rfl, Nat.le_of_ble_eq_true rfl⟩ ⟨rfl, rfl⟩ (vI (by omega) (by omega)) dX10_readBoth_137 ?_
        refine xiast (pc := 138) (N := 1202) C0 (Nat.le_of_ble_eq_true rfl) hH hS 126 ⟨Nat.le_of_ble_eq_true rfl, Nat.le_of_ble_eq_true rfl⟩ ⟨rfl, rfl⟩ (vI (by omega) (by omega)) dX10_readBoth_138 (fun _ locs hH hS _ => ?_)
        have hH : Hd D tA b 78 52 zz iv (va_up Fv 126 (upd (Fv 126) (Int32.toNatClampNeg k) (Fv 98 (Int32.toNatClampNeg k)))) Gv _ := hH
        refine lv_aload_n (pc := 139) C0.1 C0.2.1 dX10_readBoth_139 rfl (lv_at hl 2 rfl) ?_
        refine xget (pc := 140) C0 hH 78 74 clX10 ⟨Nat.le_of_ble_eq_true rfl, Nat.le_of_ble_eq_true rfl⟩ ⟨rfl, rfl⟩ (Nat.le_of_ble_eq_true rfl) fl_X10_160 (v := .ref (b + 127)) rfl dX10_readBoth_140 ?_
        refine lv_iload_n (pc := 143) C0.1 C0.2.1 dX10_readBoth_143 rfl (lv_at hl 0 rfl) ?_
        refine lv_aload_n (pc := 144) C0.1 C0.2.1 dX10_readBoth_144 rfl (lv_at hl 2 rfl) ?_
        refine xget (pc := 145) C0 hH 78 35 clX10 ⟨Nat.le_of_ble_eq_true rfl, Nat.le_of_ble_eq_true rfl⟩ ⟨rfl, rfl⟩ (Nat.le_of_ble_eq_true rfl) fl_X10_79 (v := .ref (b + 100)) rfl dX10_readBoth_145 ?_
        refine lv_iload_n (pc := 148) C0.1 C0.2.1 dX10_readBoth_148 rfl (lv_at hl 0 rfl) ?_
        refine xiald (pc := 149) (N := 1202) C0 hH 100 ⟨Nat.le_of_ble_eq_true rfl, Nat.le_of_ble_eq_true rfl⟩ ⟨rfl, rfl⟩ (vI (by omega) (by omega)) dX10_readBoth_149 ?_
        refine lv_topi (fun q203 eq203 => ?_)
        obtain rfl : q203 = Fv 100 (Int32.toNatClampNeg k) := eq203.trans rfl
        refine xiast (pc := 150) (N := 1202) C0 (Nat.le_of_ble_eq_true rfl) hH hS 127 ⟨Nat.le_of_ble_eq_true rfl, Nat.le_of_ble_eq_true rfl⟩ ⟨rfl, rfl⟩ (vI (by omega) (by omega)) dX10_readBoth_150 (fun _ locs hH hS _ => ?_)
        have hH : Hd D tA b 78 52 zz iv (va_up (va_up Fv 126 (upd (Fv 126) (Int32.toNatClampNeg k) (Fv 98 (Int32.toNatClampNeg k)))) 127 (upd (Fv 127) (Int32.toNatClampNeg k) (Fv 100 (Int32.toNatClampNeg k)))) Gv _ := hH
        obtain ⟨x204, ex204⟩ : ∃ y_ : Int32, y_ = k + 1 := ⟨_, rfl⟩
        have : Int32.toInt 1 = 1 := rfl
        have hx204 : Int32.toInt x204 = Int32.toInt k + Int32.toInt 1 := by rw [ex204]; exact fb_addI (by omega) (by omega)
        refine lv_iinc (pc := 151) (v := x204) (lv' := [(2, .int x204), (1, .int gd), (0, .ref (b + 78))]) C0.1 C0.2.1 dX10_readBoth_151 hl (k := 0) rfl (by rw [ex204]; rfl) (by decide) rfl (fun ls hl => ?_)
        refine lv_goto (pc := 154) (tgt := 119) C0.1 C0.2.1 dX10_readBoth_154 (by decide) ?_
        exact ih119 x204 gd iv (va_up (va_up Fv 126 (upd (Fv 126) (Int32.toNatClampNeg k) (Fv 98 (Int32.toNatClampNeg k)))) 127 (upd (Fv 127) (Int32.toNatClampNeg k) (Fv 100 (Int32.toNatClampNeg k)))) Gv _ _ _ (IMs.ro h1 (show RO [] [126, 127] iv Fv Gv (iv, (va_up (va_up Fv 126 (upd (Fv 126) (Int32.toNatClampNeg k) (Fv 98 (Int32.toNatClampNeg k)))) 127 (upd (Fv 127) (Int32.toNatClampNeg k) (Fv 100 (Int32.toNatClampNeg k)))), Gv) from (RO.f (RO.f RO.rf (by decide)) (by decide))) (by decide) (by decide) (by decide)) (GTm.ro h2 (show RO [] [126, 127] iv Fv Gv (iv, (va_up (va_up Fv 126 (upd (Fv 126) (Int32.toNatClampNeg k) (Fv 98 (Int32.toNatClampNeg k)))) 127 (upd (Fv 127) (Int32.toNatClampNeg k) (Fv 100 (Int32.toNatClampNeg k)))), Gv) from (RO.f (RO.f RO.rf (by decide)) (by decide))) (by decide) (by decide)) (RO.f (RO.f h3 (by decide)) (by decide)) h4 h5 h6 (by omega) (by omega) hH hS (lv_sub hl [0, 1, 2] rfl)
  have L91 : ∀ (d : Nat) (k gd : Int32) (iv Fv : Nat → Nat → Int32) (Gv : Nat → Nat → Int64) (H : Heap) (locs : List Loc) (ls : Array Slot), (IMs 86 iv Fv) → (GTm iv Fv) → (RO [11, 12, 13, 14, 15, 16, 17, 18, 19, 20, 21, 22, 23, 24, 25, 26, 27, 28, 29, 30, 31, 32, 33, 34, 35, 36, 37, 38, 39, 40, 41, 42, 43, 44, 45, 46, 47, 48, 49, 50, 51, 52, 53, 54, 55, 56, 57, 58, 59, 60, 61, 62, 63, 64, 65, 66, 67, 68, 69, 70, 71, 72, 73, 74, 75, 76, 77, 78] [85, 86, 87, 88, 89, 90, 91, 92, 93, 94, 95, 96, 97, 98, 99, 100, 101, 102, 103, 104, 105, 106, 107, 108, 109, 110, 111, 112, 113, 114, 115, 116, 117, 118, 119, 120, 121, 122, 123, 124, 125, 126, 127, 128, 129] i F G (iv, Fv, Gv)) → (BR iv) → (gd = 0 ∨ gd = 1) → (iv 78 15 = i 78 15) → (0 ≤ k.toInt) → ((iv 78 40).toInt - k.toInt ≤ d) → Hd D tA b 78 52 zz iv Fv Gv H → va_S (xA b 78 52) s.heap H locs → lv_has ls 3 [(2, .int k), (1, .int gd), (0, .ref (b + 78))] → W p l e (xR 6 145) s m ([.ref (b + 78)] : List Value).toArray below meth c H locs 0 0 (MQ below (va_Qi (fun r u => IMm u.1 u.2.1 ∧ GTm u.1 u.2.1 ∧ RO [11, 12, 13, 14, 15, 16, 17, 18, 19, 20, 21, 22, 23, 24, 25, 26, 27, 28, 29, 30, 31, 32, 33, 34, 35, 36, 37, 38, 39, 40, 41, 42, 43, 44, 45, 46, 47, 48, 49, 50, 51, 52, 53, 54, 55, 56, 57, 58, 59, 60, 61, 62, 63, 64, 65, 66, 67, 68, 69, 70, 71, 72, 73, 74, 75, 76, 77, 78] [85, 86, 87, 88, 89, 90, 91, 92, 93, 94, 95, 96, 97, 98, 99, 100, 101, 102, 103, 104, 105, 106, 107, 108, 109, 110, 111, 112, 113, 114, 115, 116, 117, 118, 119, 120, 121, 122, 123, 124, 125, 126, 127, 128, 129] i F G u ∧ (r = 0 ∨ r = 1) ∧ u.1 78 15 = i 78 15) (xB D tA b 78 52 zz) (xA b 78 52)) ([.ref (b + 78)] : List Value).toArray s 0 0 (xA b 78 52)) (F0 m 91 ls []) := by
    intro d
    induction d with
    | zero =>
      intro k gd iv Fv Gv H locs ls h1 h2 h3 h4 h5 h6 h7 h8 hH hS hl
      have rg_k := fb_rng k
      have rg_gd := fb_rng gd
      have hIs := h1
      have hGT := h2
      have hBR := h4
      have hL := IMs.lin h1
      have hGl := GTm.lin h2
      refine lv_iload_n (pc := 91) C0.1 C0.2.1 dX10_readBoth_91 rfl (lv_at hl 0 rfl) ?_
      refine lv_aload_n (pc := 92) C0.1 C0.2.1 dX10_readBoth_92 rfl (lv_at hl 2 rfl) ?_
      refine xget (pc := 93) C0 hH 78 40 clX10 ⟨Nat.le_of_ble_eq_true rfl, Nat.le_of_ble_eq_true rfl⟩ ⟨rfl, rfl⟩ (Nat.le_of_ble_eq_true rfl) fl_X10_287 (v := .int (iv 78 40)) rfl dX10_readBoth_93 ?_
      refine lv_icmp_ge (pc := 96) (tgt := 117) C0.1 C0.2.1 dX10_readBoth_96 (by decide) (fun _ => ?_) (fun c => absurd (Int32.le_iff_toInt_le.mpr (by omega)) c)
      refine lv_iconst (pc := 117) (v := 0) C0.1 C0.2.1 dX10_readBoth_117 (by decide) ?_
      refine lv_istore_n (pc := 118) (lv' := [(2, .int 0), (1, .int gd), (0, .ref (b + 78))]) C0.1 C0.2.1 dX10_readBoth_118 rfl hl (by decide) rfl (fun ls hl => ?_)
      exact L119 1202 0 gd iv Fv Gv _ _ _ h1 h2 h3 h4 h5 h6 (by decide) (show Int32.toInt (iv 78 32) - Int32.toInt 0 ≤ _ from by have : Int32.toInt 0 = 0 := rfl; omega) hH hS (lv_sub hl [0, 1, 2] rfl)
    | succ d ih91 =>
      intro k gd iv Fv Gv H locs ls h1 h2 h3 h4 h5 h6 h7 h8 hH hS hl
      have rg_k := fb_rng k
      have rg_gd := fb_rng gd
      have hIs := h1
      have hGT := h2
      have hBR := h4
      have hL := IMs.lin h1
      have hGl := GTm.lin h2
      refine lv_iload_n (pc := 91) C0.1 C0.2.1 dX10_readBoth_91 rfl (lv_at hl 0 rfl) ?_
      refine lv_aload_n (pc := 92) C0.1 C0.2.1 dX10_readBoth_92 rfl (lv_at hl 2 rfl) ?_
      refine xget (pc := 93) C0 hH 78 40 clX10 ⟨Nat.le_of_ble_eq_true rfl, Nat.le_of_ble_eq_true rfl⟩ ⟨rfl, rfl⟩ (Nat.le_of_ble_eq_true rfl) fl_X10_287 (v := .int (iv 78 40)) rfl dX10_readBoth_93 ?_
      refine lv_icmp_ge (pc := 96) (tgt := 117) C0.1 C0.2.1 dX10_readBoth_96 (by decide) (fun c201 => ?_) (fun c201 => ?_)
      · have c201 := Int32.le_iff_toInt_le.mp c201
        refine lv_iconst (pc := 117) (v := 0) C0.1 C0.2.1 dX10_readBoth_117 (by decide) ?_
        refine lv_istore_n (pc := 118) (lv' := [(2, .int 0), (1, .int gd), (0, .ref (b + 78))]) C0.1 C0.2.1 dX10_readBoth_118 rfl hl (by decide) rfl (fun ls hl => ?_)
        exact L119 1202 0 gd iv Fv Gv _ _ _ h1 h2 h3 h4 h5 h6 (by decide) (show Int32.toInt (iv 78 32) - Int32.toInt 0 ≤ _ from by have : Int32.toInt 0 = 0 := rfl; omega) hH hS (lv_sub hl [0, 1, 2] rfl)
      · have c201 : ¬ _ := fun q => c201 (Int32.le_iff_toInt_le.mpr q)
        refine lv_aload_n (pc := 99) C0.1 C0.2.1 dX10_readBoth_99 rfl (lv_at hl 2 rfl) ?_
        refine xget (pc := 100) C0 hH 78 72 clX10 ⟨Nat.le_of_ble_eq_true rfl, Nat.le_of_ble_eq_true rfl⟩ ⟨rfl, rfl⟩ (Nat.le_of_ble_eq_true rfl) fl_X10_154 (v := .ref (b + 125)) rfl dX10_readBoth_100 ?_
        refine lv_iload_n (pc := 103) C0.1 C0.2.1 dX10_readBoth_103 rfl (lv_at hl 0 rfl) ?_
        refine lv_aload_n (pc := 104) C0.1 C0.2.1 dX10_readBoth_104 rfl (lv_at hl 2 rfl) ?_
        refine xget (pc := 105) C0 hH 78 41 clX10 ⟨Nat.le_of_ble_eq_true rfl, Nat.le_of_ble_eq_true rfl⟩ ⟨rfl, rfl⟩ (Nat.le_of_ble_eq_true rfl) fl_X10_94 (v := .ref (b + 105)) rfl dX10_readBoth_105 ?_
        refine lv_iload_n (pc := 108) C0.1 C0.2.1 dX10_readBoth_108 rfl (lv_at hl 0 rfl) ?_
        refine xiald (pc := 109) (N := 1202) C0 hH 105 ⟨Nat.le_of_ble_eq_true rfl, Nat.le_of_ble_eq_true rfl⟩ ⟨rfl, rfl⟩ (vI (by omega) (by omega)) dX10_readBoth_109 ?_
        refine xiast (pc := 110) (N := 1202) C0 (Nat.le_of_ble_eq_true rfl) hH hS 125 ⟨Nat.le_of_ble_eq_true rfl, Nat.le_of_ble_eq_true rfl⟩ ⟨rfl, rfl⟩ (vI (by omega) (by omega)) dX10_readBoth_110 (fun _ locs hH hS _ => ?_)
        have hH : Hd D tA b 78 52 zz iv (va_up Fv 125 (upd (Fv 125) (Int32.toNatClampNeg k) (Fv 105 (Int32.toNatClampNeg k)))) Gv _ := hH
        obtain ⟨x202, ex202⟩ : ∃ y_ : Int32, y_ = k + 1 := ⟨_, rfl⟩
        have : Int32.toInt 1 = 1 := rfl
        have hx202 : Int32.toInt x202 = Int32.toInt k + Int32.toInt 1 := by rw [ex202]; exact fb_addI (by omega) (by omega)
        refine lv_iinc (pc := 111) (v := x202) (lv' := [(2, .int x202), (1, .int gd), (0, .ref (b + 78))]) C0.1 C0.2.1 dX10_readBoth_111 hl (k := 0) rfl (by rw [ex202]; rfl) (by decide) rfl (fun ls hl => ?_)
        refine lv_goto (pc := 114) (tgt := 91) C0.1 C0.2.1 dX10_readBoth_114 (by decide) ?_
        exact ih91 x202 gd iv (va_up Fv 125 (upd (Fv 125) (Int32.toNatClampNeg k) (Fv 105 (Int32.toNatClampNeg k)))) Gv _ _ _ (IMs.ro h1 (show RO [] [125] iv Fv Gv (iv, (va_up Fv 125 (upd (Fv 125) (Int32.toNatClampNeg k) (Fv 105 (Int32.toNatClampNeg k)))), Gv) from (RO.f RO.rf (by decide))) (by decide) (by decide) (by decide)) (GTm.ro h2 (show RO [] [125] iv Fv Gv (iv, (va_up Fv 125 (upd (Fv 125) (Int32.toNatClampNeg k) (Fv 105 (Int32.toNatClampNeg k)))), Gv) from (RO.f RO.rf (by decide))) (by decide) (by decide)) (RO.f h3 (by decide)) h4 h5 h6 (by omega) (by omega) hH hS (lv_sub hl [0, 1, 2] rfl)
  have L39 : ∀ (d : Nat) (k gd : Int32) (iv Fv : Nat → Nat → Int32) (Gv : Nat → Nat → Int64) (H : Heap) (locs : List Loc) (ls : Array Slot), (IMs 86 iv Fv) → (GTm iv Fv) → (RO [11, 12, 13, 14, 15, 16, 17, 18, 19, 20, 21, 22, 23, 24, 25, 26, 27, 28, 29, 30, 31, 32, 33, 34, 35, 36, 37, 38, 39, 40, 41, 42, 43, 44, 45, 46, 47, 48, 49, 50, 51, 52, 53, 54, 55, 56, 57, 58, 59, 60, 61, 62, 63, 64, 65, 66, 67, 68, 69, 70, 71, 72, 73, 74, 75, 76, 77, 78] [85, 86, 87, 88, 89, 90, 91, 92, 93, 94, 95, 96, 97, 98, 99, 100, 101, 102, 103, 104, 105, 106, 107, 108, 109, 110, 111, 112, 113, 114, 115, 116, 117, 118, 119, 120, 121, 122, 123, 124, 125, 126, 127, 128, 129] i F G (iv, Fv, Gv)) → (BR iv) → (gd = 0 ∨ gd = 1) → (iv 78 15 = i 78 15) → (0 ≤ k.toInt) → ((iv 78 19).toInt - k.toInt ≤ d) → Hd D tA b 78 52 zz iv Fv Gv H → va_S (xA b 78 52) s.heap H locs → lv_has ls 3 [(2, .int k), (1, .int gd), (0, .ref (b + 78))] → W p l e (xR 6 145) s m ([.ref (b + 78)] : List Value).toArray below meth c H locs 0 0 (MQ below (va_Qi (fun r u => IMm u.1 u.2.1 ∧ GTm u.1 u.2.1 ∧ RO [11, 12, 13, 14, 15, 16, 17, 18, 19, 20, 21, 22, 23, 24, 25, 26, 27, 28, 29, 30, 31, 32, 33, 34, 35, 36, 37, 38, 39, 40, 41, 42, 43, 44, 45, 46, 47, 48, 49, 50, 51, 52, 53, 54, 55, 56, 57, 58, 59, 60, 61, 62, 63, 64, 65, 66, 67, 68, 69, 70, 71, 72, 73, 74, 75, 76, 77, 78] [85, 86, 87, 88, 89, 90, 91, 92, 93, 94, 95, 96, 97, 98, 99, 100, 101, 102, 103, 104, 105, 106, 107, 108, 109, 110, 111, 112, 113, 114, 115, 116, 117, 118, 119, 120, 121, 122, 123, 124, 125, 126, 127, 128, 129] i F G u ∧ (r = 0 ∨ r = 1) ∧ u.1 78 15 = i 78 15) (xB D tA b 78 52 zz) (xA b 78 52)) ([.ref (b + 78)] : List Value).toArray s 0 0 (xA b 78 52)) (F0 m 39 ls []) := by
    intro d
    induction d with
    | zero =>
      intro k gd iv Fv Gv H locs ls h1 h2 h3 h4 h5 h6 h7 h8 hH hS hl
      have rg_k := fb_rng k
      have rg_gd := fb_rng gd
      have hIs := h1
      have hGT := h2
      have hBR := h4
      have hL := IMs.lin h1
      have hGl := GTm.lin h2
      refine lv_iload_n (pc := 39) C0.1 C0.2.1 dX10_readBoth_39 rfl (lv_at hl 0 rfl) ?_
      refine lv_aload_n (pc := 40) C0.1 C0.2.1 dX10_readBoth_40 rfl (lv_at hl 2 rfl) ?_
      refine xget (pc := 41) C0 hH 78 19 clX10 ⟨Nat.le_of_ble_eq_true rfl, Nat.le_of_ble_eq_true rfl⟩ ⟨rfl, rfl⟩ (Nat.le_of_ble_eq_true rfl) fl_X10_258 (v := .int (iv 78 19)) rfl dX10_readBoth_41 ?_
      refine lv_icmp_ge (pc := 44) (tgt := 89) C0.1 C0.2.1 dX10_readBoth_44 (by decide) (fun _ => ?_) (fun c => absurd (Int32.le_iff_toInt_le.mpr (by omega)) c)
      refine lv_iconst (pc := 89) (v := 0) C0.1 C0.2.1 dX10_readBoth_89 (by decide) ?_
      refine lv_istore_n (pc := 90) (lv' := [(2, .int 0), (1, .int gd), (0, .ref (b + 78))]) C0.1 C0.2.1 dX10_readBoth_90 rfl hl (by decide) rfl (fun ls hl => ?_)
      exact L91 1202 0 gd iv Fv Gv _ _ _ h1 h2 h3 h4 h5 h6 (by decide) (show Int32.toInt (iv 78 40) - Int32.toInt 0 ≤ _ from by have : Int32.toInt 0 = 0 := rfl; omega) hH hS (lv_sub hl [0, 1, 2] rfl)
    | succ d ih39 =>
      intro k gd iv Fv Gv H locs ls h1 h2 h3 h4 h5 h6 h7 h8 hH hS hl
      have rg_k := fb_rng k
      have rg_gd := fb_rng gd
      have hIs := h1
      have hGT := h2
      have hBR := h4
      have hL := IMs.lin h1
      have hGl := GTm.lin h2
      refine lv_iload_n (pc := 39) C0.1 C0.2.1 dX10_readBoth_39 rfl (lv_at hl 0 rfl) ?_
      refine lv_aload_n (pc := 40) C0.1 C0.2.1 dX10_readBoth_40 rfl (lv_at hl 2 rfl) ?_
      refine xget (pc := 41) C0 hH 78 19 clX10 ⟨Nat.le_of_ble_eq_true rfl, Nat.le_of_ble_eq_true rfl⟩ ⟨rfl, rfl⟩ (Nat.le_of_ble_eq_true rfl) fl_X10_258 (v := .int (iv 78 19)) rfl dX10_readBoth_41 ?_
      refine lv_icmp_ge (pc := 44) (tgt := 89) C0.1 C0.2.1 dX10_readBoth_44 (by decide) (fun c201 => ?_) (fun c201 => ?_)
      · have c201 := Int32.le_iff_toInt_le.mp c201
        refine lv_iconst (pc := 89) (v := 0) C0.1 C0.2.1 dX10_readBoth_89 (by decide) ?_
        refine lv_istore_n (pc := 90) (lv' := [(2, .int 0), (1, .int gd), (0, .ref (b + 78))]) C0.1 C0.2.1 dX10_readBoth_90 rfl hl (by decide) rfl (fun ls hl => ?_)
        exact L91 1202 0 gd iv Fv Gv _ _ _ h1 h2 h3 h4 h5 h6 (by decide) (show Int32.toInt (iv 78 40) - Int32.toInt 0 ≤ _ from by have : Int32.toInt 0 = 0 := rfl; omega) hH hS (lv_sub hl [0, 1, 2] rfl)
      · have c201 : ¬ _ := fun q => c201 (Int32.le_iff_toInt_le.mpr q)
        refine lv_aload_n (pc := 47) C0.1 C0.2.1 dX10_readBoth_47 rfl (lv_at hl 2 rfl) ?_
        refine xget (pc := 48) C0 hH 78 69 clX10 ⟨Nat.le_of_ble_eq_true rfl, Nat.le_of_ble_eq_true rfl⟩ ⟨rfl, rfl⟩ (Nat.le_of_ble_eq_true rfl) fl_X10_145 (v := .ref (b + 122)) rfl dX10_readBoth_48 ?_
        refine lv_iload_n (pc := 51) C0.1 C0.2.1 dX10_readBoth_51 rfl (lv_at hl 0 rfl) ?_
        refine lv_aload_n (pc := 52) C0.1 C0.2.1 dX10_readBoth_52 rfl (lv_at hl 2 rfl) ?_
        refine xget (pc := 53) C0 hH 78 21 clX10 ⟨Nat.le_of_ble_eq_true rfl, Nat.le_of_ble_eq_true rfl⟩ ⟨rfl, rfl⟩ (Nat.le_of_ble_eq_true rfl) fl_X10_45 (v := .ref (b + 89)) rfl dX10_readBoth_53 ?_
        refine lv_iload_n (pc := 56) C0.1 C0.2.1 dX10_readBoth_56 rfl (lv_at hl 0 rfl) ?_
        refine xiald (pc := 57) (N := 600) C0 hH 89 ⟨Nat.le_of_ble_eq_true rfl, Nat.le_of_ble_eq_true rfl⟩ ⟨rfl, rfl⟩ (vI (by omega) (by omega)) dX10_readBoth_57 ?_
        refine xiast (pc := 58) (N := 600) C0 (Nat.le_of_ble_eq_true rfl) hH hS 122 ⟨Nat.le_of_ble_eq_true rfl, Nat.le_of_ble_eq_true rfl⟩ ⟨rfl, rfl⟩ (vI (by omega) (by omega)) dX10_readBoth_58 (fun _ locs hH hS _ => ?_)
        have hH : Hd D tA b 78 52 zz iv (va_up Fv 122 (upd (Fv 122) (Int32.toNatClampNeg k) (Fv 89 (Int32.toNatClampNeg k)))) Gv _ := hH
        refine lv_aload_n (pc := 59) C0.1 C0.2.1 dX10_readBoth_59 rfl (lv_at hl 2 rfl) ?_
        refine xget (pc := 60) C0 hH 78 70 clX10 ⟨Nat.le_of_ble_eq_true rfl, Nat.le_of_ble_eq_true rfl⟩ ⟨rfl, rfl⟩ (Nat.le_of_ble_eq_true rfl) fl_X10_148 (v := .ref (b + 123)) rfl dX10_readBoth_60 ?_
        refine lv_iload_n (pc := 63) C0.1 C0.2.1 dX10_readBoth_63 rfl (lv_at hl 0 rfl) ?_
        refine lv_aload_n (pc := 64) C0.1 C0.2.1 dX10_readBoth_64 rfl (lv_at hl 2 rfl) ?_
        refine xget (pc := 65) C0 hH 78 22 clX10 ⟨Nat.le_of_ble_eq_true rfl, Nat.le_of_ble_eq_true rfl⟩ ⟨rfl, rfl⟩ (Nat.le_of_ble_eq_true rfl) fl_X10_48 (v := .ref (b + 90)) rfl dX10_readBoth_65 ?_
        refine lv_iload_n (pc := 68) C0.1 C0.2.1 dX10_readBoth_68 rfl (lv_at hl 0 rfl) ?_
        refine xiald (pc := 69) (N := 600) C0 hH 90 ⟨Nat.le_of_ble_eq_true rfl, Nat.le_of_ble_eq_true rfl⟩ ⟨rfl, rfl⟩ (vI (by omega) (by omega)) dX10_readBoth_69 ?_
        refine lv_topi (fun q202 eq202 => ?_)
        obtain rfl : q202 = Fv 90 (Int32.toNatClampNeg k) := eq202.trans rfl
        refine xiast (pc := 70) (N := 600) C0 (Nat.le_of_ble_eq_true rfl) hH hS 123 ⟨Nat.le_of_ble_eq_true rfl, Nat.le_of_ble_eq_true rfl⟩ ⟨rfl, rfl⟩ (vI (by omega) (by omega)) dX10_readBoth_70 (fun _ locs hH hS _ => ?_)
        have hH : Hd D tA b 78 52 zz iv (va_up (va_up Fv 122 (upd (Fv 122) (Int32.toNatClampNeg k) (Fv 89 (Int32.toNatClampNeg k)))) 123 (upd (Fv 123) (Int32.toNatClampNeg k) (Fv 90 (Int32.toNatClampNeg k)))) Gv _ := hH
        refine lv_aload_n (pc := 71) C0.1 C0.2.1 dX10_readBoth_71 rfl (lv_at hl 2 rfl) ?_
        refine xget (pc := 72) C0 hH 78 71 clX10 ⟨Nat.le_of_ble_eq_true rfl, Nat.le_of_ble_eq_true rfl⟩ ⟨rfl, rfl⟩ (Nat.le_of_ble_eq_true rfl) fl_X10_151 (v := .ref (b + 124)) rfl dX10_readBoth_72 ?_
        refine lv_iload_n (pc := 75) C0.1 C0.2.1 dX10_readBoth_75 rfl (lv_at hl 0 rfl) ?_
        refine lv_aload_n (pc := 76) C0.1 C0.2.1 dX10_readBoth_76 rfl (lv_at hl 2 rfl) ?_
        refine xget (pc := 77) C0 hH 78 27 clX10 ⟨Nat.le_of_ble_eq_true rfl, Nat.le_of_ble_eq_true rfl⟩ ⟨rfl, rfl⟩ (Nat.le_of_ble_eq_true rfl) fl_X10_64 (v := .ref (b + 95)) rfl dX10_readBoth_77 ?_
        refine lv_iload_n (pc := 80) C0.1 C0.2.1 dX10_readBoth_80 rfl (lv_at hl 0 rfl) ?_
        refine xiald (pc := 81) (N := 600) C0 hH 95 ⟨Nat.le_of_ble_eq_true rfl, Nat.le_of_ble_eq_true rfl⟩ ⟨rfl, rfl⟩ (vI (by omega) (by omega)) dX10_readBoth_81 ?_
        refine lv_topi (fun q203 eq203 => ?_)
        obtain rfl : q203 = Fv 95 (Int32.toNatClampNeg k) := eq203.trans rfl
        refine xiast (pc := 82) (N := 600) C0 (Nat.le_of_ble_eq_true rfl) hH hS 124 ⟨Nat.le_of_ble_eq_true rfl, Nat.le_of_ble_eq_true rfl⟩ ⟨rfl, rfl⟩ (vI (by omega) (by omega)) dX10_readBoth_82 (fun _ locs hH hS _ => ?_)
        have hH : Hd D tA b 78 52 zz iv (va_up (va_up (va_up Fv 122 (upd (Fv 122) (Int32.toNatClampNeg k) (Fv 89 (Int32.toNatClampNeg k)))) 123 (upd (Fv 123) (Int32.toNatClampNeg k) (Fv 90 (Int32.toNatClampNeg k)))) 124 (upd (Fv 124) (Int32.toNatClampNeg k) (Fv 95 (Int32.toNatClampNeg k)))) Gv _ := hH
        obtain ⟨x204, ex204⟩ : ∃ y_ : Int32, y_ = k + 1 := ⟨_, rfl⟩
        have : Int32.toInt 1 = 1 := rfl
        have hx204 : Int32.toInt x204 = Int32.toInt k + Int32.toInt 1 := by rw [ex204]; exact fb_addI (by omega) (by omega)
        refine lv_iinc (pc := 83) (v := x204) (lv' := [(2, .int x204), (1, .int gd), (0, .ref (b + 78))]) C0.1 C0.2.1 dX10_readBoth_83 hl (k := 0) rfl (by rw [ex204]; rfl) (by decide) rfl (fun ls hl => ?_)
        refine lv_goto (pc := 86) (tgt := 39) C0.1 C0.2.1 dX10_readBoth_86 (by decide) ?_
        exact ih39 x204 gd iv (va_up (va_up (va_up Fv 122 (upd (Fv 122) (Int32.toNatClampNeg k) (Fv 89 (Int32.toNatClampNeg k)))) 123 (upd (Fv 123) (Int32.toNatClampNeg k) (Fv 90 (Int32.toNatClampNeg k)))) 124 (upd (Fv 124) (Int32.toNatClampNeg k) (Fv 95 (Int32.toNatClampNeg k)))) Gv _ _ _ (IMs.kp (n := Int32.toNatClampNeg k) h1 (show RO [] [122, 123, 124] iv Fv Gv (iv, (va_up (va_up (va_up Fv 122 (upd (Fv 122) (Int32.toNatClampNeg k) (Fv 89 (Int32.toNatClampNeg k)))) 123 (upd (Fv 123) (Int32.toNatClampNeg k) (Fv 90 (Int32.toNatClampNeg k)))) 124 (upd (Fv 124) (Int32.toNatClampNeg k) (Fv 95 (Int32.toNatClampNeg k)))), Gv) from (RO.f (RO.f (RO.f RO.rf (by decide)) (by decide)) (by decide))) rfl rfl rfl) (GTm.ro h2 (show RO [] [122, 123, 124] iv Fv Gv (iv, (va_up (va_up (va_up Fv 122 (upd (Fv 122) (Int32.toNatClampNeg k) (Fv 89 (Int32.toNatClampNeg k)))) 123 (upd (Fv 123) (Int32.toNatClampNeg k) (Fv 90 (Int32.toNatClampNeg k)))) 124 (upd (Fv 124) (Int32.toNatClampNeg k) (Fv 95 (Int32.toNatClampNeg k)))), Gv) from (RO.f (RO.f (RO.f RO.rf (by decide)) (by decide)) (by decide))) (by decide) (by decide)) (RO.f (RO.f (RO.f h3 (by decide)) (by decide)) (by decide)) h4 h5 h6 (by omega) (by omega) hH hS (lv_sub hl [0, 1, 2] rfl)
  refine lv_aload_n (pc := 0) C0.1 C0.2.1 dX10_readBoth_0 rfl (lv_at hl 0 rfl) ?_
  refine lv_aload_n (pc := 1) C0.1 C0.2.1 dX10_readBoth_1 rfl (lv_at hl 0 rfl) ?_
  refine xget (pc := 2) C0 hH 78 13 clX10 ⟨Nat.le_of_ble_eq_true rfl, Nat.le_of_ble_eq_true rfl⟩ ⟨rfl, rfl⟩ (Nat.le_of_ble_eq_true rfl) fl_X10_33 (v := .ref (b + 86)) rfl dX10_readBoth_2 ?_
  refine lv_aload_n (pc := 5) C0.1 C0.2.1 dX10_readBoth_5 rfl (lv_at hl 0 rfl) ?_
  refine xget (pc := 6) C0 hH 78 14 clX10 ⟨Nat.le_of_ble_eq_true rfl, Nat.le_of_ble_eq_true rfl⟩ ⟨rfl, rfl⟩ (Nat.le_of_ble_eq_true rfl) fl_X10_242 (v := .int (i 78 14)) rfl dX10_readBoth_6 ?_
  refine xcVI (pc := 9) 78 [.ref (b + 86), .int (i 78 14)] (m_readAll_86 l D tA b i F G (i 78 14) (show 0 ≤ Int32.toInt (i 78 14) ∧ Int32.toInt (i 78 14) ≤ 600 from by omega) hIs.tk.2.1 hIs.cb hIs.wa hBR) C0 hH hS clX10 rfl ⟨⟨Nat.le_of_ble_eq_true rfl, Nat.le_of_ble_eq_true rfl⟩, rfl, rfl⟩ cw_X10_346 rfl ⟨Nat.le_of_ble_eq_true rfl, Nat.le_of_ble_eq_true rfl⟩ hl.1 rfl (Nat.le_of_ble_eq_true rfl) dX10_readBoth_9 ⟨Nat.le_of_ble_eq_true rfl, Nat.le_of_ble_eq_true rfl⟩ (fun r1 ir1 Fr1 Gr1 _ locs hp hH hS => ?_)
  obtain ⟨honr1, hTK0, hTM0, hCB0, h01r1, hplr1, hsr0, hgtr1⟩ := hp
  have hGT : GTm ir1 Fr1 := GTm.ra (i := i) (F := F) hGT hTM0 hgtr1
  have hIs : IMs 86 ir1 Fr1 := IMs.ra (i := i) (F := F) hIs honr1 (by decide) (by decide) hTK0 hTM0 hCB0 hsr0 (fun _ => hGT)
  have hBR : BR ir1 := BR.ro (i := i) (F := F) hBR honr1 (by decide)
  have hL := IMs.lin hIs
  have hGl := GTm.lin hGT
  have ek_12r1 : Int32.toInt (ir1 78 12) = Int32.toInt (i 78 12) := congrArg Int32.toInt (honr1.1 78 12 (Or.inr (by decide)))
  have ek_14r1 : Int32.toInt (ir1 78 14) = Int32.toInt (i 78 14) := congrArg Int32.toInt (honr1.1 78 14 (Or.inr (by decide)))
  have ek_15r1 : Int32.toInt (ir1 78 15) = Int32.toInt (i 78 15) := congrArg Int32.toInt (honr1.1 78 15 (Or.inr (by decide)))
  have ek_54r1 : Int32.toInt (ir1 78 54) = Int32.toInt (i 78 54) := congrArg Int32.toInt (honr1.1 78 54 (Or.inr (by decide)))
  have ek_78r1 : Int32.toInt (ir1 78 78) = Int32.toInt (i 78 78) := congrArg Int32.toInt (honr1.1 78 78 (Or.inr (by decide)))
  refine lv_istore_n (pc := 12) (lv' := [(1, .int r1), (0, .ref (b + 78))]) C0.1 C0.2.1 dX10_readBoth_12 rfl hl (by decide) rfl (fun ls hl => ?_)
  refine lv_aload_n (pc := 13) C0.1 C0.2.1 dX10_readBoth_13 rfl (lv_at hl 1 rfl) ?_
  refine lv_aload_n (pc := 14) C0.1 C0.2.1 dX10_readBoth_14 rfl (lv_at hl 1 rfl) ?_
  refine xget (pc := 15) C0 hH 78 19 clX10 ⟨Nat.le_of_ble_eq_true rfl, Nat.le_of_ble_eq_true rfl⟩ ⟨rfl, rfl⟩ (Nat.le_of_ble_eq_true rfl) fl_X10_258 (v := .int (ir1 78 19)) rfl dX10_readBoth_15 ?_
  refine lv_topi (fun x2 ex2 => ?_)
  refine xputI (pc := 18) C0 (Nat.le_of_ble_eq_true rfl) hH hS 78 66 clX10 ⟨Nat.le_of_ble_eq_true rfl, Nat.le_of_ble_eq_true rfl⟩ ⟨rfl, rfl⟩ ⟨Nat.le_of_ble_eq_true rfl, rfl, rfl⟩ fl_X10_418 (x := x2) ⟨rfl, rfl⟩ dX10_readBoth_18 (fun _ locs hH hS _ => ?_)
  have hH : Hd D tA b 78 52 zz (up2 ir1 78 66 x2) Fr1 Gr1 _ := hH
  refine lv_aload_n (pc := 21) C0.1 C0.2.1 dX10_readBoth_21 rfl (lv_at hl 1 rfl) ?_
  refine lv_aload_n (pc := 22) C0.1 C0.2.1 dX10_readBoth_22 rfl (lv_at hl 1 rfl) ?_
  refine xget (pc := 23) C0 hH 78 32 clX10 ⟨Nat.le_of_ble_eq_true rfl, Nat.le_of_ble_eq_true rfl⟩ ⟨rfl, rfl⟩ (Nat.le_of_ble_eq_true rfl) fl_X10_281 (v := .int (ir1 78 32)) rfl dX10_readBoth_23 ?_
  refine lv_topi (fun x3 ex3 => ?_)
  refine xputI (pc := 26) C0 (Nat.le_of_ble_eq_true rfl) hH hS 78 67 clX10 ⟨Nat.le_of_ble_eq_true rfl, Nat.le_of_ble_eq_true rfl⟩ ⟨rfl, rfl⟩ ⟨Nat.le_of_ble_eq_true rfl, rfl, rfl⟩ fl_X10_421 (x := x3) ⟨rfl, rfl⟩ dX10_readBoth_26 (fun _ locs hH hS _ => ?_)
  have hH : Hd D tA b 78 52 zz (up2 (up2 ir1 78 66 x2) 78 67 x3) Fr1 Gr1 _ := hH
  refine lv_aload_n (pc := 29) C0.1 C0.2.1 dX10_readBoth_29 rfl (lv_at hl 1 rfl) ?_
  refine lv_aload_n (pc := 30) C0.1 C0.2.1 dX10_readBoth_30 rfl (lv_at hl 1 rfl) ?_
  refine xget (pc := 31) C0 hH 78 40 clX10 ⟨Nat.le_of_ble_eq_true rfl, Nat.le_of_ble_eq_true rfl⟩ ⟨rfl, rfl⟩ (Nat.le_of_ble_eq_true rfl) fl_X10_287 (v := .int (ir1 78 40)) rfl dX10_readBoth_31 ?_
  refine lv_topi (fun x4 ex4 => ?_)
  refine xputI (pc := 34) C0 (Nat.le_of_ble_eq_true rfl) hH hS 78 68 clX10 ⟨Nat.le_of_ble_eq_true rfl, Nat.le_of_ble_eq_true rfl⟩ ⟨rfl, rfl⟩ ⟨Nat.le_of_ble_eq_true rfl, rfl, rfl⟩ fl_X10_424 (x := x4) ⟨rfl, rfl⟩ dX10_readBoth_34 (fun _ locs hH hS _ => ?_)
  have hH : Hd D tA b 78 52 zz (up2 (up2 (up2 ir1 78 66 x2) 78 67 x3) 78 68 x4) Fr1 Gr1 _ := hH
  refine lv_iconst (pc := 37) (v := 0) C0.1 C0.2.1 dX10_readBoth_37 (by decide) ?_
  refine lv_istore_n (pc := 38) (lv' := [(2, .int 0), (1, .int r1), (0, .ref (b + 78))]) C0.1 C0.2.1 dX10_readBoth_38 rfl hl (by decide) rfl (fun ls hl => ?_)
  exact L39 600 0 r1 (up2 (up2 (up2 ir1 78 66 x2) 78 67 x3) 78 68 x4) Fr1 Gr1 _ _ _ (IMs.ro hIs (show RO [66, 67, 68] [] ir1 Fr1 Gr1 ((up2 (up2 (up2 ir1 78 66 x2) 78 67 x3) 78 68 x4), Fr1, Gr1) from (RO.i (RO.i (RO.i RO.rf (by decide)) (by decide)) (by decide))) (by decide) (by decide) (by decide)) (GTm.ro hGT (show RO [66, 67, 68] [] ir1 Fr1 Gr1 ((up2 (up2 (up2 ir1 78 66 x2) 78 67 x3) 78 68 x4), Fr1, Gr1) from (RO.i (RO.i (RO.i RO.rf (by decide)) (by decide)) (by decide))) (by decide) (by decide)) (RO.i (RO.i (RO.i (RO.tr RO.rf honr1 (by decide) (by decide)) (by decide)) (by decide)) (by decide)) (BR.ro hBR (show RO [66, 67, 68] [] ir1 Fr1 Gr1 ((up2 (up2 (up2 ir1 78 66 x2) 78 67 x3) 78 68 x4), Fr1, Gr1) from (RO.i (RO.i (RO.i RO.rf (by decide)) (by decide)) (by decide))) (by decide)) h01r1 (honr1.1 78 15 (Or.inr (by decide))) (by decide) (show Int32.toInt (ir1 78 19) - Int32.toInt 0 ≤ _ from by have : Int32.toInt 0 = 0 := rfl; omega) hH hS (lv_sub hl [0, 1, 2] rfl)
