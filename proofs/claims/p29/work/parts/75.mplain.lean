set_option maxRecDepth 20000 in
theorem cw_X10_396 : CwV RX10 396 yX10_finish cX10_finish 2 (some .int) 0 := ⟨wm 1530 (by decide +kernel) rfl, wm 1532 (by decide +kernel) rfl, wms 75 (by decide +kernel) rfl, wm 11 (by decide +kernel) rfl, wm 1533 rfl rfl, by decide +kernel⟩
set_option maxRecDepth 20000 in
theorem cw_X10_387 : CwV RX10 387 yX10_isStanding cX10_isStanding 2 (some .boolean) 1 := ⟨wm 1510 (by decide +kernel) rfl, wm 1512 (by decide +kernel) rfl, wms 70 (by decide +kernel) rfl, wm 11 (by decide +kernel) rfl, wm 1513 rfl rfl, by decide +kernel⟩
set_option maxRecDepth 20000 in
theorem cw_X10_384 : CwV RX10 384 yX10_enter cX10_enter 3 none 2 := ⟨wm 1506 (by decide +kernel) rfl, wm 1508 (by decide +kernel) rfl, wms 69 (by decide +kernel) rfl, wm 11 (by decide +kernel) rfl, wm 1509 rfl rfl, by decide +kernel⟩
set_option maxRecDepth 20000 in
theorem cw_X10_390 : CwV RX10 390 yX10_sign cX10_sign 2 none 1 := ⟨wm 1514 (by decide +kernel) rfl, wm 1516 (by decide +kernel) rfl, wms 71 (by decide +kernel) rfl, wm 11 (by decide +kernel) rfl, wm 1517 rfl rfl, by decide +kernel⟩
set_option maxRecDepth 20000 in
theorem cw_X10_393 : CwV RX10 393 yX10_putToken cX10_putToken 3 none 1 := ⟨wm 1526 (by decide +kernel) rfl, wm 1528 (by decide +kernel) rfl, wms 74 (by decide +kernel) rfl, wm 11 (by decide +kernel) rfl, wm 1529 rfl rfl, by decide +kernel⟩
theorem dX10_plain_27 : decode cX10_plain 27 = .ok (.aload_n 0, 1) := by decide +kernel
theorem dX10_plain_28 : decode cX10_plain 28 = .ok (.getfield 375, 3) := by decide +kernel
theorem dX10_plain_31 : decode cX10_plain 31 = .ok (.ifCond .le 209, 3) := by decide +kernel
theorem dX10_plain_240 : decode cX10_plain 240 = .ok (.aload_n 0, 1) := by decide +kernel
theorem dX10_plain_241 : decode cX10_plain 241 = .ok (.invokevirtual 396, 3) := by decide +kernel
theorem dX10_plain_244 : decode cX10_plain 244 = .ok (.ireturn, 1) := by decide +kernel
theorem dX10_plain_34 : decode cX10_plain 34 = .ok (.aload_n 0, 1) := by decide +kernel
theorem dX10_plain_35 : decode cX10_plain 35 = .ok (.getfield 375, 3) := by decide +kernel
theorem dX10_plain_38 : decode cX10_plain 38 = .ok (.iconst 1, 1) := by decide +kernel
theorem dX10_plain_39 : decode cX10_plain 39 = .ok (.isub, 1) := by decide +kernel
theorem dX10_plain_40 : decode cX10_plain 40 = .ok (.istore_n 1, 1) := by decide +kernel
theorem dX10_plain_41 : decode cX10_plain 41 = .ok (.aload_n 0, 1) := by decide +kernel
theorem dX10_plain_42 : decode cX10_plain 42 = .ok (.getfield 127, 3) := by decide +kernel
theorem dX10_plain_45 : decode cX10_plain 45 = .ok (.iload_n 1, 1) := by decide +kernel
theorem dX10_plain_46 : decode cX10_plain 46 = .ok (.iaload, 1) := by decide +kernel
theorem dX10_plain_47 : decode cX10_plain 47 = .ok (.istore_n 2, 1) := by decide +kernel
theorem dX10_plain_48 : decode cX10_plain 48 = .ok (.aload_n 0, 1) := by decide +kernel
theorem dX10_plain_49 : decode cX10_plain 49 = .ok (.getfield 130, 3) := by decide +kernel
theorem dX10_plain_52 : decode cX10_plain 52 = .ok (.iload_n 1, 1) := by decide +kernel
theorem dX10_plain_53 : decode cX10_plain 53 = .ok (.iaload, 1) := by decide +kernel
theorem dX10_plain_54 : decode cX10_plain 54 = .ok (.istore_n 3, 1) := by decide +kernel
theorem dX10_plain_55 : decode cX10_plain 55 = .ok (.iload_n 3, 1) := by decide +kernel
theorem dX10_plain_56 : decode cX10_plain 56 = .ok (.bipush (-9), 2) := by decide +kernel
theorem dX10_plain_58 : decode cX10_plain 58 = .ok (.if_icmp .ne 30, 3) := by decide +kernel
theorem dX10_plain_88 : decode cX10_plain 88 = .ok (.aload_n 0, 1) := by decide +kernel
theorem dX10_plain_89 : decode cX10_plain 89 = .ok (.getfield 133, 3) := by decide +kernel
theorem dX10_plain_92 : decode cX10_plain 92 = .ok (.iload_n 1, 1) := by decide +kernel
theorem dX10_plain_93 : decode cX10_plain 93 = .ok (.iaload, 1) := by decide +kernel
theorem dX10_plain_94 : decode cX10_plain 94 = .ok (.iconst (-1), 1) := by decide +kernel
theorem dX10_plain_95 : decode cX10_plain 95 = .ok (.if_icmp .ne 33, 3) := by decide +kernel
theorem dX10_plain_128 : decode cX10_plain 128 = .ok (.aload_n 0, 1) := by decide +kernel
theorem dX10_plain_129 : decode cX10_plain 129 = .ok (.getfield 133, 3) := by decide +kernel
theorem dX10_plain_132 : decode cX10_plain 132 = .ok (.iload_n 1, 1) := by decide +kernel
theorem dX10_plain_133 : decode cX10_plain 133 = .ok (.iaload, 1) := by decide +kernel
theorem dX10_plain_134 : decode cX10_plain 134 = .ok (.bipush (-9), 2) := by decide +kernel
theorem dX10_plain_136 : decode cX10_plain 136 = .ok (.if_icmp .ne 25, 3) := by decide +kernel
theorem dX10_plain_161 : decode cX10_plain 161 = .ok (.aload_n 0, 1) := by decide +kernel
theorem dX10_plain_162 : decode cX10_plain 162 = .ok (.getfield 112, 3) := by decide +kernel
theorem dX10_plain_165 : decode cX10_plain 165 = .ok (.aload_n 0, 1) := by decide +kernel
theorem dX10_plain_166 : decode cX10_plain 166 = .ok (.getfield 133, 3) := by decide +kernel
theorem dX10_plain_169 : decode cX10_plain 169 = .ok (.iload_n 1, 1) := by decide +kernel
theorem dX10_plain_170 : decode cX10_plain 170 = .ok (.iaload, 1) := by decide +kernel
theorem dX10_plain_171 : decode cX10_plain 171 = .ok (.iaload, 1) := by decide +kernel
theorem dX10_plain_172 : decode cX10_plain 172 = .ok (.istore 4, 2) := by decide +kernel
theorem dX10_plain_174 : decode cX10_plain 174 = .ok (.aload_n 0, 1) := by decide +kernel
theorem dX10_plain_175 : decode cX10_plain 175 = .ok (.getfield 133, 3) := by decide +kernel
theorem dX10_plain_178 : decode cX10_plain 178 = .ok (.iload_n 1, 1) := by decide +kernel
theorem dX10_plain_179 : decode cX10_plain 179 = .ok (.aload_n 0, 1) := by decide +kernel
theorem dX10_plain_180 : decode cX10_plain 180 = .ok (.getfield 115, 3) := by decide +kernel
theorem dX10_plain_183 : decode cX10_plain 183 = .ok (.aload_n 0, 1) := by decide +kernel
theorem dX10_plain_184 : decode cX10_plain 184 = .ok (.getfield 133, 3) := by decide +kernel
theorem dX10_plain_187 : decode cX10_plain 187 = .ok (.iload_n 1, 1) := by decide +kernel
theorem dX10_plain_188 : decode cX10_plain 188 = .ok (.iaload, 1) := by decide +kernel
theorem dX10_plain_189 : decode cX10_plain 189 = .ok (.iaload, 1) := by decide +kernel
theorem dX10_plain_190 : decode cX10_plain 190 = .ok (.iastore, 1) := by decide +kernel
theorem dX10_plain_191 : decode cX10_plain 191 = .ok (.iload 4, 2) := by decide +kernel
theorem dX10_plain_193 : decode cX10_plain 193 = .ok (.ifCond .lt 16, 3) := by decide +kernel
theorem dX10_plain_209 : decode cX10_plain 209 = .ok (.aload_n 0, 1) := by decide +kernel
theorem dX10_plain_210 : decode cX10_plain 210 = .ok (.bipush (-100), 2) := by decide +kernel
theorem dX10_plain_212 : decode cX10_plain 212 = .ok (.iload 4, 2) := by decide +kernel
theorem dX10_plain_214 : decode cX10_plain 214 = .ok (.isub, 1) := by decide +kernel
theorem dX10_plain_215 : decode cX10_plain 215 = .ok (.invokevirtual 387, 3) := by decide +kernel
theorem dX10_plain_218 : decode cX10_plain 218 = .ok (.ifCond .eq 9, 3) := by decide +kernel
theorem dX10_plain_227 : decode cX10_plain 227 = .ok (.aload_n 0, 1) := by decide +kernel
theorem dX10_plain_228 : decode cX10_plain 228 = .ok (.bipush (-100), 2) := by decide +kernel
theorem dX10_plain_230 : decode cX10_plain 230 = .ok (.iload 4, 2) := by decide +kernel
theorem dX10_plain_232 : decode cX10_plain 232 = .ok (.isub, 1) := by decide +kernel
theorem dX10_plain_233 : decode cX10_plain 233 = .ok (.iconst 0, 1) := by decide +kernel
theorem dX10_plain_234 : decode cX10_plain 234 = .ok (.invokevirtual 384, 3) := by decide +kernel
theorem dX10_plain_237 : decode cX10_plain 237 = .ok (.goto (-210), 3) := by decide +kernel
theorem dX10_plain_221 : decode cX10_plain 221 = .ok (.aload_n 0, 1) := by decide +kernel
theorem dX10_plain_222 : decode cX10_plain 222 = .ok (.bipush 123, 2) := by decide +kernel
theorem dX10_plain_224 : decode cX10_plain 224 = .ok (.invokevirtual 390, 3) := by decide +kernel
theorem dX10_plain_196 : decode cX10_plain 196 = .ok (.aload_n 0, 1) := by decide +kernel
theorem dX10_plain_197 : decode cX10_plain 197 = .ok (.invokevirtual 381, 3) := by decide +kernel
theorem dX10_plain_200 : decode cX10_plain 200 = .ok (.aload_n 0, 1) := by decide +kernel
theorem dX10_plain_201 : decode cX10_plain 201 = .ok (.iload 4, 2) := by decide +kernel
theorem dX10_plain_203 : decode cX10_plain 203 = .ok (.invokevirtual 393, 3) := by decide +kernel
theorem dX10_plain_206 : decode cX10_plain 206 = .ok (.goto 31, 3) := by decide +kernel
theorem dX10_plain_139 : decode cX10_plain 139 = .ok (.aload_n 0, 1) := by decide +kernel
theorem dX10_plain_140 : decode cX10_plain 140 = .ok (.getfield 130, 3) := by decide +kernel
theorem dX10_plain_143 : decode cX10_plain 143 = .ok (.iload_n 1, 1) := by decide +kernel
theorem dX10_plain_144 : decode cX10_plain 144 = .ok (.aload_n 0, 1) := by decide +kernel
theorem dX10_plain_145 : decode cX10_plain 145 = .ok (.getfield 100, 3) := by decide +kernel
theorem dX10_plain_148 : decode cX10_plain 148 = .ok (.iload_n 3, 1) := by decide +kernel
theorem dX10_plain_149 : decode cX10_plain 149 = .ok (.iaload, 1) := by decide +kernel
theorem dX10_plain_150 : decode cX10_plain 150 = .ok (.iastore, 1) := by decide +kernel
theorem dX10_plain_151 : decode cX10_plain 151 = .ok (.aload_n 0, 1) := by decide +kernel
theorem dX10_plain_152 : decode cX10_plain 152 = .ok (.getfield 133, 3) := by decide +kernel
theorem dX10_plain_155 : decode cX10_plain 155 = .ok (.iload_n 1, 1) := by decide +kernel
theorem dX10_plain_156 : decode cX10_plain 156 = .ok (.iconst (-1), 1) := by decide +kernel
theorem dX10_plain_157 : decode cX10_plain 157 = .ok (.iastore, 1) := by decide +kernel
theorem dX10_plain_158 : decode cX10_plain 158 = .ok (.goto 79, 3) := by decide +kernel
theorem dX10_plain_98 : decode cX10_plain 98 = .ok (.aload_n 0, 1) := by decide +kernel
theorem dX10_plain_99 : decode cX10_plain 99 = .ok (.getfield 97, 3) := by decide +kernel
theorem dX10_plain_102 : decode cX10_plain 102 = .ok (.iload_n 3, 1) := by decide +kernel
theorem dX10_plain_103 : decode cX10_plain 103 = .ok (.iaload, 1) := by decide +kernel
theorem dX10_plain_104 : decode cX10_plain 104 = .ok (.ifCond .le 9, 3) := by decide +kernel
theorem dX10_plain_113 : decode cX10_plain 113 = .ok (.aload_n 0, 1) := by decide +kernel
theorem dX10_plain_114 : decode cX10_plain 114 = .ok (.getfield 133, 3) := by decide +kernel
theorem dX10_plain_117 : decode cX10_plain 117 = .ok (.iload_n 1, 1) := by decide +kernel
theorem dX10_plain_118 : decode cX10_plain 118 = .ok (.aload_n 0, 1) := by decide +kernel
theorem dX10_plain_119 : decode cX10_plain 119 = .ok (.getfield 106, 3) := by decide +kernel
theorem dX10_plain_122 : decode cX10_plain 122 = .ok (.iload_n 3, 1) := by decide +kernel
theorem dX10_plain_123 : decode cX10_plain 123 = .ok (.iaload, 1) := by decide +kernel
theorem dX10_plain_124 : decode cX10_plain 124 = .ok (.iastore, 1) := by decide +kernel
theorem dX10_plain_125 : decode cX10_plain 125 = .ok (.goto 112, 3) := by decide +kernel
theorem dX10_plain_107 : decode cX10_plain 107 = .ok (.aload_n 0, 1) := by decide +kernel
theorem dX10_plain_108 : decode cX10_plain 108 = .ok (.bipush 59, 2) := by decide +kernel
theorem dX10_plain_110 : decode cX10_plain 110 = .ok (.invokevirtual 390, 3) := by decide +kernel
theorem dX10_plain_61 : decode cX10_plain 61 = .ok (.aload_n 0, 1) := by decide +kernel
theorem dX10_plain_62 : decode cX10_plain 62 = .ok (.iload_n 2, 1) := by decide +kernel
theorem dX10_plain_63 : decode cX10_plain 63 = .ok (.invokevirtual 387, 3) := by decide +kernel
theorem dX10_plain_66 : decode cX10_plain 66 = .ok (.ifCond .eq 9, 3) := by decide +kernel
theorem dX10_plain_75 : decode cX10_plain 75 = .ok (.aload_n 0, 1) := by decide +kernel
theorem dX10_plain_76 : decode cX10_plain 76 = .ok (.dup, 1) := by decide +kernel
theorem dX10_plain_77 : decode cX10_plain 77 = .ok (.getfield 375, 3) := by decide +kernel
theorem dX10_plain_80 : decode cX10_plain 80 = .ok (.iconst 1, 1) := by decide +kernel
theorem dX10_plain_81 : decode cX10_plain 81 = .ok (.isub, 1) := by decide +kernel
theorem dX10_plain_82 : decode cX10_plain 82 = .ok (.putfield 375, 3) := by decide +kernel
theorem dX10_plain_85 : decode cX10_plain 85 = .ok (.goto 152, 3) := by decide +kernel
theorem dX10_plain_69 : decode cX10_plain 69 = .ok (.aload_n 0, 1) := by decide +kernel
theorem dX10_plain_70 : decode cX10_plain 70 = .ok (.bipush 125, 2) := by decide +kernel
theorem dX10_plain_72 : decode cX10_plain 72 = .ok (.invokevirtual 390, 3) := by decide +kernel
theorem dX10_plain_0 : decode cX10_plain 0 = .ok (.aload_n 0, 1) := by decide +kernel
theorem dX10_plain_1 : decode cX10_plain 1 = .ok (.getfield 211, 3) := by decide +kernel
theorem dX10_plain_4 : decode cX10_plain 4 = .ok (.iconst 1, 1) := by decide +kernel
theorem dX10_plain_5 : decode cX10_plain 5 = .ok (.if_icmp .eq 6, 3) := by decide +kernel
theorem dX10_plain_11 : decode cX10_plain 11 = .ok (.aload_n 0, 1) := by decide +kernel
theorem dX10_plain_12 : decode cX10_plain 12 = .ok (.iconst 0, 1) := by decide +kernel
theorem dX10_plain_13 : decode cX10_plain 13 = .ok (.putfield 369, 3) := by decide +kernel
theorem dX10_plain_16 : decode cX10_plain 16 = .ok (.aload_n 0, 1) := by decide +kernel
theorem dX10_plain_17 : decode cX10_plain 17 = .ok (.iconst 0, 1) := by decide +kernel
theorem dX10_plain_18 : decode cX10_plain 18 = .ok (.putfield 375, 3) := by decide +kernel
theorem dX10_plain_21 : decode cX10_plain 21 = .ok (.aload_n 0, 1) := by decide +kernel
theorem dX10_plain_22 : decode cX10_plain 22 = .ok (.iconst 0, 1) := by decide +kernel
theorem dX10_plain_23 : decode cX10_plain 23 = .ok (.iconst 0, 1) := by decide +kernel
theorem dX10_plain_24 : decode cX10_plain 24 = .ok (.invokevirtual 384, 3) := by decide +kernel
theorem dX10_plain_8 : decode cX10_plain 8 = .ok (.bipush (-3), 2) := by decide +kernel
theorem dX10_plain_10 : decode cX10_plain 10 = .ok (.ireturn, 1) := by decide +kernel
set_option maxHeartbeats 4000000 in
set_option maxRecDepth 100000 in
theorem m_plain (l : Launch) (D : va_G) (tA : Nat → ClassId) (b : Nat) (i F : Nat → Nat → Int32) (G : Nat → Nat → Int64)  (hI : IMm i F) : xMI l yX10_plain cX10_plain 5 (some .int) 3 62 D tA b 78 52 i F G [.ref (b + 78)] (fun r u => IMm u.1 u.2.1 ∧ RO [11, 12, 13, 14, 15, 16, 17, 18, 19, 20, 21, 22, 23, 24, 25, 26, 27, 28, 29, 30, 31, 32, 33, 34, 35, 36, 37, 38, 39, 40, 41, 42, 43, 44, 45, 46, 47, 48, 49, 50, 51, 52, 53, 54, 55, 56, 57, 58, 59, 60, 61, 62, 63, 64, 65, 66, 67, 68, 69, 70, 71, 72, 73, 74, 75, 76, 77, 78] [85, 86, 87, 88, 89, 90, 91, 92, 93, 94, 95, 96, 97, 98, 99, 100, 101, 102, 103, 104, 105, 106, 107, 108, 109, 110, 111, 112, 113, 114, 115, 116, 117, 118, 119, 120, 121, 122, 123, 124, 125, 126, 127, 128, 129] i F G u) := by
  refine xstart RX10 rfl (by decide) (Nat.le_of_ble_eq_true rfl) ?_
  intro p e s m below meth c ls C0 hr hH hS hl
  have hl : lv_has ls 5 [(0, .ref (b + 78))] := hl
  have hIs := hI.s
  have hi_78_17 := hIs.src
  have hL := IMs.lin hIs
  have hTA := hIs.tk.2.1
  have L27 : ∀ (d : Nat) (nb ni np : Nat) (po pr ho : Nat → Nat) (V : Nat → Bool) (iv Fv : Nat → Nat → Int32) (Gv : Nat → Nat → Int64) (H : Heap) (locs : List Loc) (ls : Array Slot), (RO [56, 63] [115, 116, 117, 118, 119, 120, 121] i F G (iv, Fv, Gv)) → (PW nb ni np po pr ho V iv Fv) → (0 ≤ (iv 78 56).toInt ∧ (iv 78 56).toInt + 2 * (iv 78 63).toInt ≤ 150000 * (vcn V 6000 : Int) + 2) → (12000 - 2 * (vcn V 6000 : Int) + (iv 78 63).toInt ≤ d) → Hd D tA b 78 52 zz iv Fv Gv H → va_S (xA b 78 52) s.heap H locs → lv_has ls 5 [(0, .ref (b + 78))] → W p l e (xR 3 62) s m ([.ref (b + 78)] : List Value).toArray below meth c H locs 0 0 (MQ below (va_Qi (fun r u => IMm u.1 u.2.1 ∧ RO [11, 12, 13, 14, 15, 16, 17, 18, 19, 20, 21, 22, 23, 24, 25, 26, 27, 28, 29, 30, 31, 32, 33, 34, 35, 36, 37, 38, 39, 40, 41, 42, 43, 44, 45, 46, 47, 48, 49, 50, 51, 52, 53, 54, 55, 56, 57, 58, 59, 60, 61, 62, 63, 64, 65, 66, 67, 68, 69, 70, 71, 72, 73, 74, 75, 76, 77, 78] [85, 86, 87, 88, 89, 90, 91, 92, 93, 94, 95, 96, 97, 98, 99, 100, 101, 102, 103, 104, 105, 106, 107, 108, 109, 110, 111, 112, 113, 114, 115, 116, 117, 118, 119, 120, 121, 122, 123, 124, 125, 126, 127, 128, 129] i F G u) (xB D tA b 78 52 zz) (xA b 78 52)) ([.ref (b + 78)] : List Value).toArray s 0 0 (xA b 78 52)) (F0 m 27 ls []) := by
    intro d
    induction d with
    | zero =>
      intro nb ni np po pr ho V iv Fv Gv H locs ls h1 h2 h3 h4 hH hS hl
      have hPW := h2
      have hV6 := vcn_le V 6000
      have hnb := hPW.1.1
      have hdp0 := hPW.2.2.1
      have ek54 : Int32.toInt (iv 78 54) = Int32.toInt (i 78 54) := congrArg Int32.toInt (h1.1 78 54 (Or.inr (by decide)))
      have hi_78_17 : iv 78 17 = nI 85 := (h1.1 78 17 (Or.inr (by decide))).trans hIs.src
      have hTA : TA (Fv 89) (Fv 90) := by rw [show Fv 89 = F 89 from (h1.2 89 (by decide)).1, show Fv 90 = F 90 from (h1.2 90 (by decide)).1]; exact hIs.tk.2.1
      refine lv_aload_n (pc := 27) C0.1 C0.2.1 dX10_plain_27 rfl (lv_at hl 0 rfl) ?_
      refine xget (pc := 28) C0 hH 78 63 clX10 ⟨Nat.le_of_ble_eq_true rfl, Nat.le_of_ble_eq_true rfl⟩ ⟨rfl, rfl⟩ (Nat.le_of_ble_eq_true rfl) fl_X10_375 (v := .int (iv 78 63)) rfl dX10_plain_28 ?_
      have : Int32.toInt 0 = 0 := rfl
      refine lv_if_le (pc := 31) (tgt := 240) C0.1 C0.2.1 dX10_plain_31 (by decide) (fun _ => ?_) (fun c => absurd (Int32.le_iff_toInt_le.mpr (by omega)) c)
      refine lv_aload_n (pc := 240) C0.1 C0.2.1 dX10_plain_240 rfl (lv_at hl 0 rfl) ?_
      refine xcVI (pc := 241) 78 [] (m_finish l D tA b iv Fv Gv (show 0 ≤ Int32.toInt (iv 78 56) from by omega) (show 0 ≤ Int32.toInt (iv 78 54) ∧ Int32.toInt (iv 78 54) ≤ 4000 from by omega)) C0 hH hS clX10 rfl ⟨⟨Nat.le_of_ble_eq_true rfl, Nat.le_of_ble_eq_true rfl⟩, rfl, rfl⟩ cw_X10_396 rfl ⟨Nat.le_of_ble_eq_true rfl, Nat.le_of_ble_eq_true rfl⟩ hl.1 rfl (Nat.le_of_ble_eq_true rfl) dX10_plain_241 ⟨Nat.le_of_ble_eq_true rfl, Nat.le_of_ble_eq_true rfl⟩ (fun r201 ir201 Fr201 Gr201 _ locs hp hH hS => ?_)
      obtain ⟨honr201, hwr201⟩ := hp
      have hwr201 : 0 ≤ (ir201 78 54).toInt ∧ (ir201 78 54).toInt ≤ 4000 := hwr201
      have hi_78_17 : ir201 78 17 = nI 85 := (honr201.1 78 17 (Or.inr (by decide))).trans hi_78_17
      have ek_56r201 : Int32.toInt (ir201 78 56) = Int32.toInt (iv 78 56) := congrArg Int32.toInt (honr201.1 78 56 (Or.inr (by decide)))
      have ek_63r201 : Int32.toInt (ir201 78 63) = Int32.toInt (iv 78 63) := congrArg Int32.toInt (honr201.1 78 63 (Or.inr (by decide)))
      exact xiret (pc := 244) C0 hr hH hS dX10_plain_244 ⟨IMs.m (IMs.wr hIs (show RO [54, 56, 63, 64, 65] [114, 115, 116, 117, 118, 119, 120, 121] i F G (ir201, Fr201, Gr201) from (RO.tr (RO.tr RO.rf h1 (by decide) (by decide)) honr201 (by decide) (by decide))) (by decide) (by decide) (by decide) hwr201), (RO.tr (RO.tr RO.rf h1 (by decide) (by decide)) honr201 (by decide) (by decide))⟩
    | succ d ih27 =>
      intro nb ni np po pr ho V iv Fv Gv H locs ls h1 h2 h3 h4 hH hS hl
      have hPW := h2
      have hV6 := vcn_le V 6000
      have hnb := hPW.1.1
      have hdp0 := hPW.2.2.1
      have ek54 : Int32.toInt (iv 78 54) = Int32.toInt (i 78 54) := congrArg Int32.toInt (h1.1 78 54 (Or.inr (by decide)))
      have hi_78_17 : iv 78 17 = nI 85 := (h1.1 78 17 (Or.inr (by decide))).trans hIs.src
      have hTA : TA (Fv 89) (Fv 90) := by rw [show Fv 89 = F 89 from (h1.2 89 (by decide)).1, show Fv 90 = F 90 from (h1.2 90 (by decide)).1]; exact hIs.tk.2.1
      refine lv_aload_n (pc := 27) C0.1 C0.2.1 dX10_plain_27 rfl (lv_at hl 0 rfl) ?_
      refine xget (pc := 28) C0 hH 78 63 clX10 ⟨Nat.le_of_ble_eq_true rfl, Nat.le_of_ble_eq_true rfl⟩ ⟨rfl, rfl⟩ (Nat.le_of_ble_eq_true rfl) fl_X10_375 (v := .int (iv 78 63)) rfl dX10_plain_28 ?_
      refine lv_if_le (pc := 31) (tgt := 240) C0.1 C0.2.1 dX10_plain_31 (by decide) (fun c201 => ?_) (fun c201 => ?_)
      · have : Int32.toInt 0 = 0 := rfl
        have c201 := Int32.le_iff_toInt_le.mp c201
        refine lv_aload_n (pc := 240) C0.1 C0.2.1 dX10_plain_240 rfl (lv_at hl 0 rfl) ?_
        refine xcVI (pc := 241) 78 [] (m_finish l D tA b iv Fv Gv (show 0 ≤ Int32.toInt (iv 78 56) from by omega) (show 0 ≤ Int32.toInt (iv 78 54) ∧ Int32.toInt (iv 78 54) ≤ 4000 from by omega)) C0 hH hS clX10 rfl ⟨⟨Nat.le_of_ble_eq_true rfl, Nat.le_of_ble_eq_true rfl⟩, rfl, rfl⟩ cw_X10_396 rfl ⟨Nat.le_of_ble_eq_true rfl, Nat.le_of_ble_eq_true rfl⟩ hl.1 rfl (Nat.le_of_ble_eq_true rfl) dX10_plain_241 ⟨Nat.le_of_ble_eq_true rfl, Nat.le_of_ble_eq_true rfl⟩ (fun r202 ir202 Fr202 Gr202 _ locs hp hH hS => ?_)
        obtain ⟨honr202, hwr202⟩ := hp
        have hwr202 : 0 ≤ (ir202 78 54).toInt ∧ (ir202 78 54).toInt ≤ 4000 := hwr202
        have hi_78_17 : ir202 78 17 = nI 85 := (honr202.1 78 17 (Or.inr (by decide))).trans hi_78_17
        have ek_56r202 : Int32.toInt (ir202 78 56) = Int32.toInt (iv 78 56) := congrArg Int32.toInt (honr202.1 78 56 (Or.inr (by decide)))
        have ek_63r202 : Int32.toInt (ir202 78 63) = Int32.toInt (iv 78 63) := congrArg Int32.toInt (honr202.1 78 63 (Or.inr (by decide)))
        exact xiret (pc := 244) C0 hr hH hS dX10_plain_244 ⟨IMs.m (IMs.wr hIs (show RO [54, 56, 63, 64, 65] [114, 115, 116, 117, 118, 119, 120, 121] i F G (ir202, Fr202, Gr202) from (RO.tr (RO.tr RO.rf h1 (by decide) (by decide)) honr202 (by decide) (by decide))) (by decide) (by decide) (by decide) hwr202), (RO.tr (RO.tr RO.rf h1 (by decide) (by decide)) honr202 (by decide) (by decide))⟩
      · have : Int32.toInt 0 = 0 := rfl
        have c201 : ¬ _ := fun q => c201 (Int32.le_iff_toInt_le.mpr q)
        refine lv_aload_n (pc := 34) C0.1 C0.2.1 dX10_plain_34 rfl (lv_at hl 0 rfl) ?_
        refine xget (pc := 35) C0 hH 78 63 clX10 ⟨Nat.le_of_ble_eq_true rfl, Nat.le_of_ble_eq_true rfl⟩ ⟨rfl, rfl⟩ (Nat.le_of_ble_eq_true rfl) fl_X10_375 (v := .int (iv 78 63)) rfl dX10_plain_35 ?_
        refine lv_iconst (pc := 38) (v := 1) C0.1 C0.2.1 dX10_plain_38 (by decide) ?_
        have : Int32.toInt 1 = 1 := rfl
        refine lv_isub (pc := 39) C0.1 C0.2.1 dX10_plain_39 ?_
        refine lv_topi (fun x203 ex203 => ?_)
        have hx203 : Int32.toInt x203 = Int32.toInt (iv 78 63) - Int32.toInt 1 := by rw [ex203]; exact fb_subI (by omega) (by omega)
        refine lv_istore_n (pc := 40) (lv' := [(1, .int x203), (0, .ref (b + 78))]) C0.1 C0.2.1 dX10_plain_40 rfl hl (by decide) rfl (fun ls hl => ?_)
        have hcd := clI (x := x203) (by omega)
        have hDD : (((Int32.toNatClampNeg x203) : Nat) : Int) + 1 = (iv 78 63).toInt := (by omega)
        have hfr := (hPW.2.2.2.1 (Int32.toNatClampNeg x203) (by omega)).1
        refine lv_aload_n (pc := 41) C0.1 C0.2.1 dX10_plain_41 rfl (lv_at hl 1 rfl) ?_
        refine xget (pc := 42) C0 hH 78 57 clX10 ⟨Nat.le_of_ble_eq_true rfl, Nat.le_of_ble_eq_true rfl⟩ ⟨rfl, rfl⟩ (Nat.le_of_ble_eq_true rfl) fl_X10_127 (v := .ref (b + 116)) rfl dX10_plain_42 ?_
        refine lv_iload_n (pc := 45) C0.1 C0.2.1 dX10_plain_45 rfl (lv_at hl 0 rfl) ?_
        refine xiald (pc := 46) (N := 1202) C0 hH 116 ⟨Nat.le_of_ble_eq_true rfl, Nat.le_of_ble_eq_true rfl⟩ ⟨rfl, rfl⟩ (vI (by omega) (by omega)) dX10_plain_46 ?_
        refine lv_topi (fun x204 ex204 => ?_)
        refine lv_istore_n (pc := 47) (lv' := [(2, .int x204), (1, .int x203), (0, .ref (b + 78))]) C0.1 C0.2.1 dX10_plain_47 rfl hl (by decide) rfl (fun ls hl => ?_)
        have hIx204 := congrArg Int32.toInt ex204
        refine lv_aload_n (pc := 48) C0.1 C0.2.1 dX10_plain_48 rfl (lv_at hl 2 rfl) ?_
        refine xget (pc := 49) C0 hH 78 58 clX10 ⟨Nat.le_of_ble_eq_true rfl, Nat.le_of_ble_eq_true rfl⟩ ⟨rfl, rfl⟩ (Nat.le_of_ble_eq_true rfl) fl_X10_130 (v := .ref (b + 117)) rfl dX10_plain_49 ?_
        refine lv_iload_n (pc := 52) C0.1 C0.2.1 dX10_plain_52 rfl (lv_at hl 1 rfl) ?_
        refine xiald (pc := 53) (N := 1202) C0 hH 117 ⟨Nat.le_of_ble_eq_true rfl, Nat.le_of_ble_eq_true rfl⟩ ⟨rfl, rfl⟩ (vI (by omega) (by omega)) dX10_plain_53 ?_
        refine lv_topi (fun x205 ex205 => ?_)
        refine lv_istore_n (pc := 54) (lv' := [(3, .int x205), (2, .int x204), (1, .int x203), (0, .ref (b + 78))]) C0.1 C0.2.1 dX10_plain_54 rfl hl (by decide) rfl (fun ls hl => ?_)
        have hIx205 := congrArg Int32.toInt ex205
        refine lv_iload_n (pc := 55) C0.1 C0.2.1 dX10_plain_55 rfl (lv_at hl 0 rfl) ?_
        refine lv_bipush (pc := 56) (v := (-9)) C0.1 C0.2.1 dX10_plain_56 (by decide) ?_
        refine lv_icmp_ne (pc := 58) (tgt := 88) C0.1 C0.2.1 dX10_plain_58 (by decide) (fun c206 => ?_) (fun c206 => ?_)
        · have : Int32.toInt (-9) = (-9) := rfl
          have c206 : ¬ _ := fun q => c206 (Int32.toInt_inj.mp q)
          have hxn : ¬ (Fv 117 (Int32.toNatClampNeg x203)).toInt = -9 := (by have : Int32.toInt (-9) = -9 := rfl; omega)
          have hO := hPW.top hDD hxn
          have hOx := hO.1
          refine lv_aload_n (pc := 88) C0.1 C0.2.1 dX10_plain_88 rfl (lv_at hl 3 rfl) ?_
          refine xget (pc := 89) C0 hH 78 59 clX10 ⟨Nat.le_of_ble_eq_true rfl, Nat.le_of_ble_eq_true rfl⟩ ⟨rfl, rfl⟩ (Nat.le_of_ble_eq_true rfl) fl_X10_133 (v := .ref (b + 118)) rfl dX10_plain_89 ?_
          refine lv_iload_n (pc := 92) C0.1 C0.2.1 dX10_plain_92 rfl (lv_at hl 2 rfl) ?_
          refine xiald (pc := 93) (N := 1202) C0 hH 118 ⟨Nat.le_of_ble_eq_true rfl, Nat.le_of_ble_eq_true rfl⟩ ⟨rfl, rfl⟩ (vI (by omega) (by omega)) dX10_plain_93 ?_
          refine lv_iconst (pc := 94) (v := (-1)) C0.1 C0.2.1 dX10_plain_94 (by decide) ?_
          refine lv_icmp_ne (pc := 95) (tgt := 128) C0.1 C0.2.1 dX10_plain_95 (by decide) (fun c207 => ?_) (fun c207 => ?_)
          · have : Int32.toInt (-1) = (-1) := rfl
            have c207 : ¬ _ := fun q => c207 (Int32.toInt_inj.mp q)
            refine lv_aload_n (pc := 128) C0.1 C0.2.1 dX10_plain_128 rfl (lv_at hl 3 rfl) ?_
            refine xget (pc := 129) C0 hH 78 59 clX10 ⟨Nat.le_of_ble_eq_true rfl, Nat.le_of_ble_eq_true rfl⟩ ⟨rfl, rfl⟩ (Nat.le_of_ble_eq_true rfl) fl_X10_133 (v := .ref (b + 118)) rfl dX10_plain_129 ?_
            refine lv_iload_n (pc := 132) C0.1 C0.2.1 dX10_plain_132 rfl (lv_at hl 2 rfl) ?_
            refine xiald (pc := 133) (N := 1202) C0 hH 118 ⟨Nat.le_of_ble_eq_true rfl, Nat.le_of_ble_eq_true rfl⟩ ⟨rfl, rfl⟩ (vI (by omega) (by omega)) dX10_plain_133 ?_
            refine lv_bipush (pc := 134) (v := (-9)) C0.1 C0.2.1 dX10_plain_134 (by decide) ?_
            refine lv_icmp_ne (pc := 136) (tgt := 161) C0.1 C0.2.1 dX10_plain_136 (by decide) (fun c208 => ?_) (fun c208 => ?_)
            · have : Int32.toInt (-9) = (-9) := rfl
              have c208 : ¬ _ := fun q => c208 (Int32.toInt_inj.mp q)
              have hp1n : ¬ (Fv 118 (Int32.toNatClampNeg x203)).toInt = -1 := (by have : Int32.toInt (-1) = -1 := rfl; omega)
              have hp9n : ¬ (Fv 118 (Int32.toNatClampNeg x203)).toInt = -9 := (by have : Int32.toInt (-9) = -9 := rfl; omega)
              have hP0 : 0 ≤ (Fv 118 (Int32.toNatClampNeg x203)).toInt ∧ (Fv 118 (Int32.toNatClampNeg x203)).toInt < np := by rcases hO.2.2.2 with q | ⟨-, q | q⟩; exact absurd q hp1n; exact absurd q hp9n; exact q.1
              refine lv_aload_n (pc := 161) C0.1 C0.2.1 dX10_plain_161 rfl (lv_at hl 3 rfl) ?_
              refine xget (pc := 162) C0 hH 78 48 clX10 ⟨Nat.le_of_ble_eq_true rfl, Nat.le_of_ble_eq_true rfl⟩ ⟨rfl, rfl⟩ (Nat.le_of_ble_eq_true rfl) fl_X10_112 (v := .ref (b + 111)) rfl dX10_plain_162 ?_
              refine lv_aload_n (pc := 165) C0.1 C0.2.1 dX10_plain_165 rfl (lv_at hl 3 rfl) ?_
              refine xget (pc := 166) C0 hH 78 59 clX10 ⟨Nat.le_of_ble_eq_true rfl, Nat.le_of_ble_eq_true rfl⟩ ⟨rfl, rfl⟩ (Nat.le_of_ble_eq_true rfl) fl_X10_133 (v := .ref (b + 118)) rfl dX10_plain_166 ?_
              refine lv_iload_n (pc := 169) C0.1 C0.2.1 dX10_plain_169 rfl (lv_at hl 2 rfl) ?_
              refine xiald (pc := 170) (N := 1202) C0 hH 118 ⟨Nat.le_of_ble_eq_true rfl, Nat.le_of_ble_eq_true rfl⟩ ⟨rfl, rfl⟩ (vI (by omega) (by omega)) dX10_plain_170 ?_
              refine xiald (pc := 171) (N := 1802) C0 hH 111 ⟨Nat.le_of_ble_eq_true rfl, Nat.le_of_ble_eq_true rfl⟩ ⟨rfl, rfl⟩ (vI (by omega) (by omega)) dX10_plain_171 ?_
              refine lv_topi (fun x209 ex209 => ?_)
              refine lv_istore (pc := 172) (lv' := [(4, .int x209), (3, .int x205), (2, .int x204), (1, .int x203), (0, .ref (b + 78))]) C0.1 C0.2.1 dX10_plain_172 hl (by decide) rfl (fun ls hl => ?_)
              refine lv_aload_n (pc := 174) C0.1 C0.2.1 dX10_plain_174 rfl (lv_at hl 4 rfl) ?_
              refine xget (pc := 175) C0 hH 78 59 clX10 ⟨Nat.le_of_ble_eq_true rfl, Nat.le_of_ble_eq_true rfl⟩ ⟨rfl, rfl⟩ (Nat.le_of_ble_eq_true rfl) fl_X10_133 (v := .ref (b + 118)) rfl dX10_plain_175 ?_
              refine lv_iload_n (pc := 178) C0.1 C0.2.1 dX10_plain_178 rfl (lv_at hl 3 rfl) ?_
              refine lv_aload_n (pc := 179) C0.1 C0.2.1 dX10_plain_179 rfl (lv_at hl 4 rfl) ?_
              refine xget (pc := 180) C0 hH 78 49 clX10 ⟨Nat.le_of_ble_eq_true rfl, Nat.le_of_ble_eq_true rfl⟩ ⟨rfl, rfl⟩ (Nat.le_of_ble_eq_true rfl) fl_X10_115 (v := .ref (b + 112)) rfl dX10_plain_180 ?_
              refine lv_aload_n (pc := 183) C0.1 C0.2.1 dX10_plain_183 rfl (lv_at hl 4 rfl) ?_
              refine xget (pc := 184) C0 hH 78 59 clX10 ⟨Nat.le_of_ble_eq_true rfl, Nat.le_of_ble_eq_true rfl⟩ ⟨rfl, rfl⟩ (Nat.le_of_ble_eq_true rfl) fl_X10_133 (v := .ref (b + 118)) rfl dX10_plain_184 ?_
              refine lv_iload_n (pc := 187) C0.1 C0.2.1 dX10_plain_187 rfl (lv_at hl 3 rfl) ?_
              refine xiald (pc := 188) (N := 1202) C0 hH 118 ⟨Nat.le_of_ble_eq_true rfl, Nat.le_of_ble_eq_true rfl⟩ ⟨rfl, rfl⟩ (vI (by omega) (by omega)) dX10_plain_188 ?_
              refine xiald (pc := 189) (N := 1802) C0 hH 112 ⟨Nat.le_of_ble_eq_true rfl, Nat.le_of_ble_eq_true rfl⟩ ⟨rfl, rfl⟩ (vI (by omega) (by omega)) dX10_plain_189 ?_
              refine xiast (pc := 190) (N := 1202) C0 (Nat.le_of_ble_eq_true rfl) hH hS 118 ⟨Nat.le_of_ble_eq_true rfl, Nat.le_of_ble_eq_true rfl⟩ ⟨rfl, rfl⟩ (vI (by omega) (by omega)) dX10_plain_190 (fun _ locs hH hS _ => ?_)
              have hH : Hd D tA b 78 52 zz iv (va_up Fv 118 (upd (Fv 118) (Int32.toNatClampNeg x203) (Fv 112 (Int32.toNatClampNeg (Fv 118 (Int32.toNatClampNeg x203)))))) Gv _ := hH
              obtain ⟨hVn, hlt, hPW, hvv⟩ := PW.s4 (i := iv) (F := Fv) (i2 := iv) (F2 := (va_up Fv 118 (upd (Fv 118) (Int32.toNatClampNeg x203) (Fv 112 (Int32.toNatClampNeg (Fv 118 (Int32.toNatClampNeg x203))))))) hPW hDD hxn hp1n hp9n rfl (fun k a1 a2 => va_up_ne _ _ (by omega)) rfl rfl rfl ex209
              have hcn := vcn_mk (N := 6000) hVn (by omega)
              refine lv_iload (pc := 191) C0.1 C0.2.1 dX10_plain_191 (lv_at hl 0 rfl) ?_
              refine lv_if_lt (pc := 193) (tgt := 209) C0.1 C0.2.1 dX10_plain_193 (by decide) (fun c210 => ?_) (fun c210 => ?_)
              · have : Int32.toInt 0 = 0 := rfl
                have c210 := Int32.lt_iff_toInt_lt.mp c210
                obtain ⟨hb1, hb2, hb3, hb4, hb5, hb6⟩ := hvv.resolve_left (fun q => by have := q.1; have : Int32.toInt 0 = 0 := rfl; omega)
                refine lv_aload_n (pc := 209) C0.1 C0.2.1 dX10_plain_209 rfl (lv_at hl 4 rfl) ?_
                refine lv_bipush (pc := 210) (v := (-100)) C0.1 C0.2.1 dX10_plain_210 (by decide) ?_
                refine lv_iload (pc := 212) C0.1 C0.2.1 dX10_plain_212 (lv_at hl 0 rfl) ?_
                have : Int32.toInt (-100) = (-100) := rfl
                refine lv_isub (pc := 214) C0.1 C0.2.1 dX10_plain_214 ?_
                refine lv_topi (fun x211 ex211 => ?_)
                have hx211 : Int32.toInt x211 = Int32.toInt (-100) - Int32.toInt x209 := by rw [ex211]; exact fb_subI (by omega) (by omega)
                refine xcVI (pc := 215) 78 [.int x211] (m_isStanding l D tA b iv (va_up Fv 118 (upd (Fv 118) (Int32.toNatClampNeg x203) (Fv 112 (Int32.toNatClampNeg (Fv 118 (Int32.toNatClampNeg x203)))))) Gv x211 (show 0 ≤ Int32.toInt x211 ∧ Int32.toInt x211 < 1202 from by omega)) C0 hH hS clX10 rfl ⟨⟨Nat.le_of_ble_eq_true rfl, Nat.le_of_ble_eq_true rfl⟩, rfl, rfl⟩ cw_X10_387 rfl ⟨Nat.le_of_ble_eq_true rfl, Nat.le_of_ble_eq_true rfl⟩ hl.1 rfl (Nat.le_of_ble_eq_true rfl) dX10_plain_215 ⟨Nat.le_of_ble_eq_true rfl, Nat.le_of_ble_eq_true rfl⟩ (fun r212 ir212 Fr212 Gr212 _ locs hp hH hS => ?_)
                obtain ⟨hu, h01r212⟩ := hp
                cases hu
                refine lv_if_eq (pc := 218) (tgt := 227) C0.1 C0.2.1 dX10_plain_218 (by decide) (fun c213 => ?_) (fun c213 => ?_)
                · have : Int32.toInt 0 = 0 := rfl
                  have c213 := congrArg Int32.toInt c213
                  refine lv_aload_n (pc := 227) C0.1 C0.2.1 dX10_plain_227 rfl (lv_at hl 4 rfl) ?_
                  refine lv_bipush (pc := 228) (v := (-100)) C0.1 C0.2.1 dX10_plain_228 (by decide) ?_
                  refine lv_iload (pc := 230) C0.1 C0.2.1 dX10_plain_230 (lv_at hl 0 rfl) ?_
                  have : Int32.toInt (-100) = (-100) := rfl
                  refine lv_isub (pc := 232) C0.1 C0.2.1 dX10_plain_232 ?_
                  refine lv_topi (fun x214 ex214 => ?_)
                  have hx214 : Int32.toInt x214 = Int32.toInt (-100) - Int32.toInt x209 := by rw [ex214]; exact fb_subI (by omega) (by omega)
                  refine lv_iconst (pc := 233) (v := 0) C0.1 C0.2.1 dX10_plain_233 (by decide) ?_
                  refine xcVV (pc := 234) 78 [.int x214, .int 0] (m_enter l D tA b iv (va_up Fv 118 (upd (Fv 118) (Int32.toNatClampNeg x203) (Fv 112 (Int32.toNatClampNeg (Fv 118 (Int32.toNatClampNeg x203)))))) Gv x214 0 (show 0 ≤ Int32.toInt x214 ∧ Int32.toInt x214 < 1202 from by omega) (show 0 ≤ Int32.toInt (iv 78 63) ∧ Int32.toInt (iv 78 63) < 1202 from by first | omega | decide)) C0 hH hS clX10 rfl ⟨⟨Nat.le_of_ble_eq_true rfl, Nat.le_of_ble_eq_true rfl⟩, rfl, rfl⟩ cw_X10_384 rfl ⟨Nat.le_of_ble_eq_true rfl, Nat.le_of_ble_eq_true rfl⟩ hl.1 rfl (Nat.le_of_ble_eq_true rfl) dX10_plain_234 ⟨Nat.le_of_ble_eq_true rfl, Nat.le_of_ble_eq_true rfl⟩ (fun ir215 Fr215 Gr215 _ locs hp hH hS => ?_)
                  obtain ⟨honr215, hdpr215, h116r215, h117r215, h118r215, h119r215⟩ := hp
                  have hdpr215 : (ir215 78 63).toInt = Int32.toInt (iv 78 63) + 1 := hdpr215
                  have h116r215 : Fr215 116 = upd ((va_up Fv 118 (upd (Fv 118) (Int32.toNatClampNeg x203) (Fv 112 (Int32.toNatClampNeg (Fv 118 (Int32.toNatClampNeg x203)))))) 116) (Int32.toNatClampNeg (iv 78 63)) x214 := h116r215
                  have h117r215 : Fr215 117 = upd ((va_up Fv 118 (upd (Fv 118) (Int32.toNatClampNeg x203) (Fv 112 (Int32.toNatClampNeg (Fv 118 (Int32.toNatClampNeg x203)))))) 117) (Int32.toNatClampNeg (iv 78 63)) ((va_up Fv 118 (upd (Fv 118) (Int32.toNatClampNeg x203) (Fv 112 (Int32.toNatClampNeg (Fv 118 (Int32.toNatClampNeg x203)))))) 103 (Int32.toNatClampNeg x214)) := h117r215
                  have h118r215 : Fr215 118 = upd ((va_up Fv 118 (upd (Fv 118) (Int32.toNatClampNeg x203) (Fv 112 (Int32.toNatClampNeg (Fv 118 (Int32.toNatClampNeg x203)))))) 118) (Int32.toNatClampNeg (iv 78 63)) (-1) := h118r215
                  have h119r215 : Fr215 119 = upd ((va_up Fv 118 (upd (Fv 118) (Int32.toNatClampNeg x203) (Fv 112 (Int32.toNatClampNeg (Fv 118 (Int32.toNatClampNeg x203)))))) 119) (Int32.toNatClampNeg (iv 78 63)) 0 := h119r215
                  have hi_78_17 : ir215 78 17 = nI 85 := (honr215.1 78 17 (Or.inr (by decide))).trans hi_78_17
                  have ek_54r215 : Int32.toInt (ir215 78 54) = Int32.toInt (iv 78 54) := congrArg Int32.toInt (honr215.1 78 54 (Or.inr (by decide)))
                  have ek_56r215 : Int32.toInt (ir215 78 56) = Int32.toInt (iv 78 56) := congrArg Int32.toInt (honr215.1 78 56 (Or.inr (by decide)))
                  have e116 : (va_up Fv 118 (upd (Fv 118) (Int32.toNatClampNeg x203) (Fv 112 (Int32.toNatClampNeg (Fv 118 (Int32.toNatClampNeg x203)))))) 116 = Fv 116 := rfl
                  have e105 : (va_up Fv 118 (upd (Fv 118) (Int32.toNatClampNeg x203) (Fv 112 (Int32.toNatClampNeg (Fv 118 (Int32.toNatClampNeg x203)))))) 105 = Fv 105 := rfl
                  have hPW : PW nb ni np po pr ho (vmk V (cl (Fv 118 (Int32.toNatClampNeg x203)))) ir215 Fr215 := PW.s5 (i := iv) (F := (va_up Fv 118 (upd (Fv 118) (Int32.toNatClampNeg x203) (Fv 112 (Int32.toNatClampNeg (Fv 118 (Int32.toNatClampNeg x203))))))) (cI := -100 - Int32.toInt x209) hPW (show Int32.toInt x214 = _ from by omega) ⟨(show Int32.toInt (iv 78 63) ≤ _ from by omega), hb2⟩ (fun d hd => by rw [e116]; exact hb4 d (by have hd : (d : Int) < Int32.toInt (iv 78 63) := hd; omega)) hb5 e105 hb6 hdpr215 (fun k a1 a2 => (honr215.2 k (fun q => by simp only [List.mem_cons, List.not_mem_nil, or_false] at q; omega)).1) h116r215 h117r215 h118r215
                  refine lv_goto (pc := 237) (tgt := 27) C0.1 C0.2.1 dX10_plain_237 (by decide) ?_
                  exact ih27 nb ni np po pr ho (vmk V (cl (Fv 118 (Int32.toNatClampNeg x203)))) ir215 Fr215 Gr215 _ _ _ (RO.tr (RO.f (RO.tr RO.rf h1 (by decide) (by decide)) (by decide)) honr215 (by decide) (by decide)) hPW (show 0 ≤ Int32.toInt (ir215 78 56) ∧ Int32.toInt (ir215 78 56) + 2 * Int32.toInt (ir215 78 63) ≤ 150000 * (vcn (vmk V (cl (Fv 118 (Int32.toNatClampNeg x203)))) 6000 : Int) + 2 from by have : vcn (vmk V (cl (Fv 118 (Int32.toNatClampNeg x203)))) 6000 = vcn V 6000 + 1 := hcn; omega) (show 12000 - 2 * (vcn (vmk V (cl (Fv 118 (Int32.toNatClampNeg x203)))) 6000 : Int) + Int32.toInt (ir215 78 63) ≤ _ from by have : vcn (vmk V (cl (Fv 118 (Int32.toNatClampNeg x203)))) 6000 = vcn V 6000 + 1 := hcn; omega) hH hS (lv_sub hl [4] rfl)
                · have : Int32.toInt 0 = 0 := rfl
                  have c213 : ¬ _ := fun q => c213 (Int32.toInt_inj.mp q)
                  refine lv_aload_n (pc := 221) C0.1 C0.2.1 dX10_plain_221 rfl (lv_at hl 4 rfl) ?_
                  refine lv_bipush (pc := 222) (v := 123) C0.1 C0.2.1 dX10_plain_222 (by decide) ?_
                  refine xcVV (pc := 224) 78 [.int 123] (m_sign l D tA b iv (va_up Fv 118 (upd (Fv 118) (Int32.toNatClampNeg x203) (Fv 112 (Int32.toNatClampNeg (Fv 118 (Int32.toNatClampNeg x203)))))) Gv 123 (show 0 ≤ Int32.toInt (iv 78 56) ∧ Int32.toInt (iv 78 56) ≤ 1900000000 from by omega) ) C0 hH hS clX10 rfl ⟨⟨Nat.le_of_ble_eq_true rfl, Nat.le_of_ble_eq_true rfl⟩, rfl, rfl⟩ cw_X10_390 rfl ⟨Nat.le_of_ble_eq_true rfl, Nat.le_of_ble_eq_true rfl⟩ hl.1 rfl (Nat.le_of_ble_eq_true rfl) dX10_plain_224 ⟨Nat.le_of_ble_eq_true rfl, Nat.le_of_ble_eq_true rfl⟩ (fun ir216 Fr216 Gr216 _ locs hp hH hS => ?_)
                  obtain ⟨honr216, hdsr216⟩ := hp
                  have hdsr216 : Int32.toInt (iv 78 56) ≤ (ir216 78 56).toInt ∧ (ir216 78 56).toInt ≤ Int32.toInt (iv 78 56) + 2 := hdsr216
                  have hPW : PW nb ni np po pr ho (vmk V (cl (Fv 118 (Int32.toNatClampNeg x203)))) ir216 Fr216 := PW.ro (i := iv) (F := (va_up Fv 118 (upd (Fv 118) (Int32.toNatClampNeg x203) (Fv 112 (Int32.toNatClampNeg (Fv 118 (Int32.toNatClampNeg x203))))))) hPW honr216 (by decide) (by decide)
                  have hTA : TA (Fr216 89) (Fr216 90) := by rw [show Fr216 89 = (va_up Fv 118 (upd (Fv 118) (Int32.toNatClampNeg x203) (Fv 112 (Int32.toNatClampNeg (Fv 118 (Int32.toNatClampNeg x203)))))) 89 from (honr216.2 89 (by decide)).1, show Fr216 90 = (va_up Fv 118 (upd (Fv 118) (Int32.toNatClampNeg x203) (Fv 112 (Int32.toNatClampNeg (Fv 118 (Int32.toNatClampNeg x203)))))) 90 from (honr216.2 90 (by decide)).1]; exact hTA
                  have hi_78_17 : ir216 78 17 = nI 85 := (honr216.1 78 17 (Or.inr (by decide))).trans hi_78_17
                  have ek_54r216 : Int32.toInt (ir216 78 54) = Int32.toInt (iv 78 54) := congrArg Int32.toInt (honr216.1 78 54 (Or.inr (by decide)))
                  have ek_63r216 : Int32.toInt (ir216 78 63) = Int32.toInt (iv 78 63) := congrArg Int32.toInt (honr216.1 78 63 (Or.inr (by decide)))
                  refine lv_aload_n (pc := 227) C0.1 C0.2.1 dX10_plain_227 rfl (lv_at hl 4 rfl) ?_
                  refine lv_bipush (pc := 228) (v := (-100)) C0.1 C0.2.1 dX10_plain_228 (by decide) ?_
                  refine lv_iload (pc := 230) C0.1 C0.2.1 dX10_plain_230 (lv_at hl 0 rfl) ?_
                  have : Int32.toInt (-100) = (-100) := rfl
                  refine lv_isub (pc := 232) C0.1 C0.2.1 dX10_plain_232 ?_
                  refine lv_topi (fun x217 ex217 => ?_)
                  have hx217 : Int32.toInt x217 = Int32.toInt (-100) - Int32.toInt x209 := by rw [ex217]; exact fb_subI (by omega) (by omega)
                  refine lv_iconst (pc := 233) (v := 0) C0.1 C0.2.1 dX10_plain_233 (by decide) ?_
                  refine xcVV (pc := 234) 78 [.int x217, .int 0] (m_enter l D tA b ir216 Fr216 Gr216 x217 0 (show 0 ≤ Int32.toInt x217 ∧ Int32.toInt x217 < 1202 from by omega) (show 0 ≤ Int32.toInt (ir216 78 63) ∧ Int32.toInt (ir216 78 63) < 1202 from by first | omega | decide)) C0 hH hS clX10 rfl ⟨⟨Nat.le_of_ble_eq_true rfl, Nat.le_of_ble_eq_true rfl⟩, rfl, rfl⟩ cw_X10_384 rfl ⟨Nat.le_of_ble_eq_true rfl, Nat.le_of_ble_eq_true rfl⟩ hl.1 rfl (Nat.le_of_ble_eq_true rfl) dX10_plain_234 ⟨Nat.le_of_ble_eq_true rfl, Nat.le_of_ble_eq_true rfl⟩ (fun ir218 Fr218 Gr218 _ locs hp hH hS => ?_)
                  obtain ⟨honr218, hdpr218, h116r218, h117r218, h118r218, h119r218⟩ := hp
                  have hdpr218 : (ir218 78 63).toInt = Int32.toInt (ir216 78 63) + 1 := hdpr218
                  have h116r218 : Fr218 116 = upd (Fr216 116) (Int32.toNatClampNeg (ir216 78 63)) x217 := h116r218
                  have h117r218 : Fr218 117 = upd (Fr216 117) (Int32.toNatClampNeg (ir216 78 63)) (Fr216 103 (Int32.toNatClampNeg x217)) := h117r218
                  have h118r218 : Fr218 118 = upd (Fr216 118) (Int32.toNatClampNeg (ir216 78 63)) (-1) := h118r218
                  have h119r218 : Fr218 119 = upd (Fr216 119) (Int32.toNatClampNeg (ir216 78 63)) 0 := h119r218
                  have hi_78_17 : ir218 78 17 = nI 85 := (honr218.1 78 17 (Or.inr (by decide))).trans hi_78_17
                  have ek_54r218 : Int32.toInt (ir218 78 54) = Int32.toInt (ir216 78 54) := congrArg Int32.toInt (honr218.1 78 54 (Or.inr (by decide)))
                  have ek_56r218 : Int32.toInt (ir218 78 56) = Int32.toInt (ir216 78 56) := congrArg Int32.toInt (honr218.1 78 56 (Or.inr (by decide)))
                  have e116 : Fr216 116 = Fv 116 := (honr216.2 116 (by decide)).1
                  have e105 : Fr216 105 = Fv 105 := (honr216.2 105 (by decide)).1
                  have hPW : PW nb ni np po pr ho (vmk V (cl (Fv 118 (Int32.toNatClampNeg x203)))) ir218 Fr218 := PW.s5 (i := ir216) (F := Fr216) (cI := -100 - Int32.toInt x209) hPW (show Int32.toInt x217 = _ from by omega) ⟨(show Int32.toInt (ir216 78 63) ≤ _ from by omega), hb2⟩ (fun d hd => by rw [e116]; exact hb4 d (by have hd : (d : Int) < Int32.toInt (ir216 78 63) := hd; omega)) hb5 e105 hb6 hdpr218 (fun k a1 a2 => (honr218.2 k (fun q => by simp only [List.mem_cons, List.not_mem_nil, or_false] at q; omega)).1) h116r218 h117r218 h118r218
                  refine lv_goto (pc := 237) (tgt := 27) C0.1 C0.2.1 dX10_plain_237 (by decide) ?_
                  exact ih27 nb ni np po pr ho (vmk V (cl (Fv 118 (Int32.toNatClampNeg x203)))) ir218 Fr218 Gr218 _ _ _ (RO.tr (RO.tr (RO.f (RO.tr RO.rf h1 (by decide) (by decide)) (by decide)) honr216 (by decide) (by decide)) honr218 (by decide) (by decide)) hPW (show 0 ≤ Int32.toInt (ir218 78 56) ∧ Int32.toInt (ir218 78 56) + 2 * Int32.toInt (ir218 78 63) ≤ 150000 * (vcn (vmk V (cl (Fv 118 (Int32.toNatClampNeg x203)))) 6000 : Int) + 2 from by have : vcn (vmk V (cl (Fv 118 (Int32.toNatClampNeg x203)))) 6000 = vcn V 6000 + 1 := hcn; omega) (show 12000 - 2 * (vcn (vmk V (cl (Fv 118 (Int32.toNatClampNeg x203)))) 6000 : Int) + Int32.toInt (ir218 78 63) ≤ _ from by have : vcn (vmk V (cl (Fv 118 (Int32.toNatClampNeg x203)))) 6000 = vcn V 6000 + 1 := hcn; omega) hH hS (lv_sub hl [4] rfl)
              · have : Int32.toInt 0 = 0 := rfl
                have c210 : ¬ _ := fun q => c210 (Int32.lt_iff_toInt_lt.mpr q)
                have hv6 := hvv.resolve_right (fun q => by have := q.1; have : Int32.toInt 0 = 0 := rfl; omega)
                refine lv_aload_n (pc := 196) C0.1 C0.2.1 dX10_plain_196 rfl (lv_at hl 4 rfl) ?_
                refine xcVV (pc := 197) 78 [] (m_blank l D tA b iv (va_up Fv 118 (upd (Fv 118) (Int32.toNatClampNeg x203) (Fv 112 (Int32.toNatClampNeg (Fv 118 (Int32.toNatClampNeg x203)))))) Gv  (show 0 ≤ Int32.toInt (iv 78 56) ∧ Int32.toInt (iv 78 56) ≤ 2000000000 from by omega) ) C0 hH hS clX10 rfl ⟨⟨Nat.le_of_ble_eq_true rfl, Nat.le_of_ble_eq_true rfl⟩, rfl, rfl⟩ cw_X10_381 rfl ⟨Nat.le_of_ble_eq_true rfl, Nat.le_of_ble_eq_true rfl⟩ hl.1 rfl (Nat.le_of_ble_eq_true rfl) dX10_plain_197 ⟨Nat.le_of_ble_eq_true rfl, Nat.le_of_ble_eq_true rfl⟩ (fun ir219 Fr219 Gr219 _ locs hp hH hS => ?_)
                obtain ⟨honr219, hdsr219⟩ := hp
                have hdsr219 : Int32.toInt (iv 78 56) ≤ (ir219 78 56).toInt ∧ (ir219 78 56).toInt ≤ Int32.toInt (iv 78 56) + 1 := hdsr219
                have hPW : PW nb ni np po pr ho (vmk V (cl (Fv 118 (Int32.toNatClampNeg x203)))) ir219 Fr219 := PW.ro (i := iv) (F := (va_up Fv 118 (upd (Fv 118) (Int32.toNatClampNeg x203) (Fv 112 (Int32.toNatClampNeg (Fv 118 (Int32.toNatClampNeg x203))))))) hPW honr219 (by decide) (by decide)
                have hTA : TA (Fr219 89) (Fr219 90) := by rw [show Fr219 89 = (va_up Fv 118 (upd (Fv 118) (Int32.toNatClampNeg x203) (Fv 112 (Int32.toNatClampNeg (Fv 118 (Int32.toNatClampNeg x203)))))) 89 from (honr219.2 89 (by decide)).1, show Fr219 90 = (va_up Fv 118 (upd (Fv 118) (Int32.toNatClampNeg x203) (Fv 112 (Int32.toNatClampNeg (Fv 118 (Int32.toNatClampNeg x203)))))) 90 from (honr219.2 90 (by decide)).1]; exact hTA
                have hi_78_17 : ir219 78 17 = nI 85 := (honr219.1 78 17 (Or.inr (by decide))).trans hi_78_17
                have ek_54r219 : Int32.toInt (ir219 78 54) = Int32.toInt (iv 78 54) := congrArg Int32.toInt (honr219.1 78 54 (Or.inr (by decide)))
                have ek_63r219 : Int32.toInt (ir219 78 63) = Int32.toInt (iv 78 63) := congrArg Int32.toInt (honr219.1 78 63 (Or.inr (by decide)))
                refine lv_aload_n (pc := 200) C0.1 C0.2.1 dX10_plain_200 rfl (lv_at hl 4 rfl) ?_
                refine lv_iload (pc := 201) C0.1 C0.2.1 dX10_plain_201 (lv_at hl 0 rfl) ?_
                refine xcVV (pc := 203) 78 [.int x209] (m_putToken l D tA b ir219 Fr219 Gr219 x209 (show 0 ≤ Int32.toInt (ir219 78 56) ∧ Int32.toInt (ir219 78 56) ≤ 1900000000 from by omega) hi_78_17 hTA (show 0 ≤ Int32.toInt x209 ∧ Int32.toInt x209 < 600 from by omega)) C0 hH hS clX10 rfl ⟨⟨Nat.le_of_ble_eq_true rfl, Nat.le_of_ble_eq_true rfl⟩, rfl, rfl⟩ cw_X10_393 rfl ⟨Nat.le_of_ble_eq_true rfl, Nat.le_of_ble_eq_true rfl⟩ hl.1 rfl (Nat.le_of_ble_eq_true rfl) dX10_plain_203 ⟨Nat.le_of_ble_eq_true rfl, Nat.le_of_ble_eq_true rfl⟩ (fun ir220 Fr220 Gr220 _ locs hp hH hS => ?_)
                obtain ⟨honr220, hdsr220⟩ := hp
                have hdsr220 : Int32.toInt (ir219 78 56) ≤ (ir220 78 56).toInt ∧ (ir220 78 56).toInt ≤ Int32.toInt (ir219 78 56) + 600 := hdsr220
                have hPW : PW nb ni np po pr ho (vmk V (cl (Fv 118 (Int32.toNatClampNeg x203)))) ir220 Fr220 := PW.ro (i := ir219) (F := Fr219) hPW honr220 (by decide) (by decide)
                have hTA : TA (Fr220 89) (Fr220 90) := by rw [show Fr220 89 = Fr219 89 from (honr220.2 89 (by decide)).1, show Fr220 90 = Fr219 90 from (honr220.2 90 (by decide)).1]; exact hTA
                have hi_78_17 : ir220 78 17 = nI 85 := (honr220.1 78 17 (Or.inr (by decide))).trans hi_78_17
                have ek_54r220 : Int32.toInt (ir220 78 54) = Int32.toInt (ir219 78 54) := congrArg Int32.toInt (honr220.1 78 54 (Or.inr (by decide)))
                have ek_63r220 : Int32.toInt (ir220 78 63) = Int32.toInt (ir219 78 63) := congrArg Int32.toInt (honr220.1 78 63 (Or.inr (by decide)))
                refine lv_goto (pc := 206) (tgt := 237) C0.1 C0.2.1 dX10_plain_206 (by decide) ?_
                refine lv_goto (pc := 237) (tgt := 27) C0.1 C0.2.1 dX10_plain_237 (by decide) ?_
                exact ih27 nb ni np po pr ho (vmk V (cl (Fv 118 (Int32.toNatClampNeg x203)))) ir220 Fr220 Gr220 _ _ _ (RO.tr (RO.tr (RO.f (RO.tr RO.rf h1 (by decide) (by decide)) (by decide)) honr219 (by decide) (by decide)) honr220 (by decide) (by decide)) hPW (show 0 ≤ Int32.toInt (ir220 78 56) ∧ Int32.toInt (ir220 78 56) + 2 * Int32.toInt (ir220 78 63) ≤ 150000 * (vcn (vmk V (cl (Fv 118 (Int32.toNatClampNeg x203)))) 6000 : Int) + 2 from by have : vcn (vmk V (cl (Fv 118 (Int32.toNatClampNeg x203)))) 6000 = vcn V 6000 + 1 := hcn; omega) (show 12000 - 2 * (vcn (vmk V (cl (Fv 118 (Int32.toNatClampNeg x203)))) 6000 : Int) + Int32.toInt (ir220 78 63) ≤ _ from by have : vcn (vmk V (cl (Fv 118 (Int32.toNatClampNeg x203)))) 6000 = vcn V 6000 + 1 := hcn; omega) hH hS (lv_sub hl [4] rfl)
            · have : Int32.toInt (-9) = (-9) := rfl
              have c208 := congrArg Int32.toInt c208
              refine lv_aload_n (pc := 139) C0.1 C0.2.1 dX10_plain_139 rfl (lv_at hl 3 rfl) ?_
              refine xget (pc := 140) C0 hH 78 58 clX10 ⟨Nat.le_of_ble_eq_true rfl, Nat.le_of_ble_eq_true rfl⟩ ⟨rfl, rfl⟩ (Nat.le_of_ble_eq_true rfl) fl_X10_130 (v := .ref (b + 117)) rfl dX10_plain_140 ?_
              refine lv_iload_n (pc := 143) C0.1 C0.2.1 dX10_plain_143 rfl (lv_at hl 2 rfl) ?_
              refine lv_aload_n (pc := 144) C0.1 C0.2.1 dX10_plain_144 rfl (lv_at hl 3 rfl) ?_
              refine xget (pc := 145) C0 hH 78 43 clX10 ⟨Nat.le_of_ble_eq_true rfl, Nat.le_of_ble_eq_true rfl⟩ ⟨rfl, rfl⟩ (Nat.le_of_ble_eq_true rfl) fl_X10_100 (v := .ref (b + 107)) rfl dX10_plain_145 ?_
              refine lv_iload_n (pc := 148) C0.1 C0.2.1 dX10_plain_148 rfl (lv_at hl 0 rfl) ?_
              refine xiald (pc := 149) (N := 1202) C0 hH 107 ⟨Nat.le_of_ble_eq_true rfl, Nat.le_of_ble_eq_true rfl⟩ ⟨rfl, rfl⟩ (vI (by omega) (by omega)) dX10_plain_149 ?_
              refine xiast (pc := 150) (N := 1202) C0 (Nat.le_of_ble_eq_true rfl) hH hS 117 ⟨Nat.le_of_ble_eq_true rfl, Nat.le_of_ble_eq_true rfl⟩ ⟨rfl, rfl⟩ (vI (by omega) (by omega)) dX10_plain_150 (fun _ locs hH hS _ => ?_)
              have hH : Hd D tA b 78 52 zz iv (va_up Fv 117 (upd (Fv 117) (Int32.toNatClampNeg x203) (Fv 107 (Int32.toNatClampNeg x205)))) Gv _ := hH
              refine lv_aload_n (pc := 151) C0.1 C0.2.1 dX10_plain_151 rfl (lv_at hl 3 rfl) ?_
              refine xget (pc := 152) C0 hH 78 59 clX10 ⟨Nat.le_of_ble_eq_true rfl, Nat.le_of_ble_eq_true rfl⟩ ⟨rfl, rfl⟩ (Nat.le_of_ble_eq_true rfl) fl_X10_133 (v := .ref (b + 118)) rfl dX10_plain_152 ?_
              refine lv_iload_n (pc := 155) C0.1 C0.2.1 dX10_plain_155 rfl (lv_at hl 2 rfl) ?_
              refine lv_iconst (pc := 156) (v := (-1)) C0.1 C0.2.1 dX10_plain_156 (by decide) ?_
              refine xiast (pc := 157) (N := 1202) C0 (Nat.le_of_ble_eq_true rfl) hH hS 118 ⟨Nat.le_of_ble_eq_true rfl, Nat.le_of_ble_eq_true rfl⟩ ⟨rfl, rfl⟩ (vI (by omega) (by omega)) dX10_plain_157 (fun _ locs hH hS _ => ?_)
              have hH : Hd D tA b 78 52 zz iv (va_up (va_up Fv 117 (upd (Fv 117) (Int32.toNatClampNeg x203) (Fv 107 (Int32.toNatClampNeg x205)))) 118 (upd (Fv 118) (Int32.toNatClampNeg x203) (-1))) Gv _ := hH
              have hp9 : (Fv 118 (Int32.toNatClampNeg x203)).toInt = -9 := (by have : Int32.toInt (-9) = -9 := rfl; omega)
              obtain ⟨hVn, hlt, hPW⟩ := PW.s3 (i := iv) (F := Fv) (i2 := iv) (F2 := (va_up (va_up Fv 117 (upd (Fv 117) (Int32.toNatClampNeg x203) (Fv 107 (Int32.toNatClampNeg x205)))) 118 (upd (Fv 118) (Int32.toNatClampNeg x203) (-1)))) hPW hDD hxn hp9 rfl (fun k a1 a2 => (va_up_ne _ _ (by omega)).trans (va_up_ne _ _ (by omega))) rfl (congrArg (fun z => upd (Fv 117) (Int32.toNatClampNeg x203) (Fv 107 (cl z))) ex205) rfl
              have hcn := vcn_mk (N := 6000) hVn (by omega)
              refine lv_goto (pc := 158) (tgt := 237) C0.1 C0.2.1 dX10_plain_158 (by decide) ?_
              refine lv_goto (pc := 237) (tgt := 27) C0.1 C0.2.1 dX10_plain_237 (by decide) ?_
              exact ih27 nb ni np po pr ho (vmk V (4000 + cl (Fv 117 (Int32.toNatClampNeg x203)))) iv (va_up (va_up Fv 117 (upd (Fv 117) (Int32.toNatClampNeg x203) (Fv 107 (Int32.toNatClampNeg x205)))) 118 (upd (Fv 118) (Int32.toNatClampNeg x203) (-1))) Gv _ _ _ (RO.f (RO.f (RO.tr RO.rf h1 (by decide) (by decide)) (by decide)) (by decide)) hPW (show 0 ≤ Int32.toInt (iv 78 56) ∧ Int32.toInt (iv 78 56) + 2 * Int32.toInt (iv 78 63) ≤ 150000 * (vcn (vmk V (4000 + cl (Fv 117 (Int32.toNatClampNeg x203)))) 6000 : Int) + 2 from by have : vcn (vmk V (4000 + cl (Fv 117 (Int32.toNatClampNeg x203)))) 6000 = vcn V 6000 + 1 := hcn; omega) (show 12000 - 2 * (vcn (vmk V (4000 + cl (Fv 117 (Int32.toNatClampNeg x203)))) 6000 : Int) + Int32.toInt (iv 78 63) ≤ _ from by have : vcn (vmk V (4000 + cl (Fv 117 (Int32.toNatClampNeg x203)))) 6000 = vcn V 6000 + 1 := hcn; omega) hH hS (lv_sub hl [3] rfl)
          · have : Int32.toInt (-1) = (-1) := rfl
            have c207 := congrArg Int32.toInt c207
            refine lv_aload_n (pc := 98) C0.1 C0.2.1 dX10_plain_98 rfl (lv_at hl 3 rfl) ?_
            refine xget (pc := 99) C0 hH 78 42 clX10 ⟨Nat.le_of_ble_eq_true rfl, Nat.le_of_ble_eq_true rfl⟩ ⟨rfl, rfl⟩ (Nat.le_of_ble_eq_true rfl) fl_X10_97 (v := .ref (b + 106)) rfl dX10_plain_99 ?_
            refine lv_iload_n (pc := 102) C0.1 C0.2.1 dX10_plain_102 rfl (lv_at hl 0 rfl) ?_
            refine xiald (pc := 103) (N := 1202) C0 hH 106 ⟨Nat.le_of_ble_eq_true rfl, Nat.le_of_ble_eq_true rfl⟩ ⟨rfl, rfl⟩ (vI (by omega) (by omega)) dX10_plain_103 ?_
            refine lv_if_le (pc := 104) (tgt := 113) C0.1 C0.2.1 dX10_plain_104 (by decide) (fun c221 => ?_) (fun c221 => ?_)
            · have : Int32.toInt 0 = 0 := rfl
              have c221 := Int32.le_iff_toInt_le.mp c221
              refine lv_aload_n (pc := 113) C0.1 C0.2.1 dX10_plain_113 rfl (lv_at hl 3 rfl) ?_
              refine xget (pc := 114) C0 hH 78 59 clX10 ⟨Nat.le_of_ble_eq_true rfl, Nat.le_of_ble_eq_true rfl⟩ ⟨rfl, rfl⟩ (Nat.le_of_ble_eq_true rfl) fl_X10_133 (v := .ref (b + 118)) rfl dX10_plain_114 ?_
              refine lv_iload_n (pc := 117) C0.1 C0.2.1 dX10_plain_117 rfl (lv_at hl 2 rfl) ?_
              refine lv_aload_n (pc := 118) C0.1 C0.2.1 dX10_plain_118 rfl (lv_at hl 3 rfl) ?_
              refine xget (pc := 119) C0 hH 78 45 clX10 ⟨Nat.le_of_ble_eq_true rfl, Nat.le_of_ble_eq_true rfl⟩ ⟨rfl, rfl⟩ (Nat.le_of_ble_eq_true rfl) fl_X10_106 (v := .ref (b + 109)) rfl dX10_plain_119 ?_
              refine lv_iload_n (pc := 122) C0.1 C0.2.1 dX10_plain_122 rfl (lv_at hl 0 rfl) ?_
              refine xiald (pc := 123) (N := 1202) C0 hH 109 ⟨Nat.le_of_ble_eq_true rfl, Nat.le_of_ble_eq_true rfl⟩ ⟨rfl, rfl⟩ (vI (by omega) (by omega)) dX10_plain_123 ?_
              refine xiast (pc := 124) (N := 1202) C0 (Nat.le_of_ble_eq_true rfl) hH hS 118 ⟨Nat.le_of_ble_eq_true rfl, Nat.le_of_ble_eq_true rfl⟩ ⟨rfl, rfl⟩ (vI (by omega) (by omega)) dX10_plain_124 (fun _ locs hH hS _ => ?_)
              have hH : Hd D tA b 78 52 zz iv (va_up Fv 118 (upd (Fv 118) (Int32.toNatClampNeg x203) (Fv 109 (Int32.toNatClampNeg x205)))) Gv _ := hH
              have hp1 : (Fv 118 (Int32.toNatClampNeg x203)).toInt = -1 := (by have : Int32.toInt (-1) = -1 := rfl; omega)
              have e7b : Fv 117 = Fv 117 := rfl
              have e8b : Fv 118 = Fv 118 := rfl
              have hxb : ¬ (Fv 117 (Int32.toNatClampNeg x203)).toInt = -9 := by rw [e7b]; exact hxn
              have hpb : (Fv 118 (Int32.toNatClampNeg x203)).toInt = -1 := by rw [e8b]; exact hp1
              have hx3b : x205 = Fv 117 (Int32.toNatClampNeg x203) := by rw [e7b]; exact ex205
              obtain ⟨hVn, hlt, hPW⟩ := PW.s2 (i := iv) (F := Fv) (i2 := iv) (F2 := (va_up Fv 118 (upd (Fv 118) (Int32.toNatClampNeg x203) (Fv 109 (Int32.toNatClampNeg x205))))) hPW (show (((Int32.toNatClampNeg x203) : Nat) : Int) + 1 = (iv 78 63).toInt from by omega) hxb hpb rfl (fun k a1 a2 => va_up_ne _ _ (by omega)) rfl rfl (congrArg (fun z => upd (Fv 118) (Int32.toNatClampNeg x203) (Fv 109 (cl z))) hx3b)
              have hcn := vcn_mk (N := 6000) hVn (by omega)
              refine lv_goto (pc := 125) (tgt := 237) C0.1 C0.2.1 dX10_plain_125 (by decide) ?_
              refine lv_goto (pc := 237) (tgt := 27) C0.1 C0.2.1 dX10_plain_237 (by decide) ?_
              exact ih27 nb ni np po pr ho (vmk V (2000 + cl (Fv 117 (Int32.toNatClampNeg x203)))) iv (va_up Fv 118 (upd (Fv 118) (Int32.toNatClampNeg x203) (Fv 109 (Int32.toNatClampNeg x205)))) Gv _ _ _ (RO.f (RO.tr RO.rf h1 (by decide) (by decide)) (by decide)) hPW (show 0 ≤ Int32.toInt (iv 78 56) ∧ Int32.toInt (iv 78 56) + 2 * Int32.toInt (iv 78 63) ≤ 150000 * (vcn (vmk V (2000 + cl (Fv 117 (Int32.toNatClampNeg x203)))) 6000 : Int) + 2 from by have : vcn (vmk V (2000 + cl (Fv 117 (Int32.toNatClampNeg x203)))) 6000 = vcn V 6000 + 1 := hcn; omega) (show 12000 - 2 * (vcn (vmk V (2000 + cl (Fv 117 (Int32.toNatClampNeg x203)))) 6000 : Int) + Int32.toInt (iv 78 63) ≤ _ from by have : vcn (vmk V (2000 + cl (Fv 117 (Int32.toNatClampNeg x203)))) 6000 = vcn V 6000 + 1 := hcn; omega) hH hS (lv_sub hl [3] rfl)
            · have : Int32.toInt 0 = 0 := rfl
              have c221 : ¬ _ := fun q => c221 (Int32.le_iff_toInt_le.mpr q)
              refine lv_aload_n (pc := 107) C0.1 C0.2.1 dX10_plain_107 rfl (lv_at hl 3 rfl) ?_
              refine lv_bipush (pc := 108) (v := 59) C0.1 C0.2.1 dX10_plain_108 (by decide) ?_
              refine xcVV (pc := 110) 78 [.int 59] (m_sign l D tA b iv Fv Gv 59 (show 0 ≤ Int32.toInt (iv 78 56) ∧ Int32.toInt (iv 78 56) ≤ 1900000000 from by omega) ) C0 hH hS clX10 rfl ⟨⟨Nat.le_of_ble_eq_true rfl, Nat.le_of_ble_eq_true rfl⟩, rfl, rfl⟩ cw_X10_390 rfl ⟨Nat.le_of_ble_eq_true rfl, Nat.le_of_ble_eq_true rfl⟩ hl.1 rfl (Nat.le_of_ble_eq_true rfl) dX10_plain_110 ⟨Nat.le_of_ble_eq_true rfl, Nat.le_of_ble_eq_true rfl⟩ (fun ir222 Fr222 Gr222 _ locs hp hH hS => ?_)
              obtain ⟨honr222, hdsr222⟩ := hp
              have hdsr222 : Int32.toInt (iv 78 56) ≤ (ir222 78 56).toInt ∧ (ir222 78 56).toInt ≤ Int32.toInt (iv 78 56) + 2 := hdsr222
              have hPW : PW nb ni np po pr ho V ir222 Fr222 := PW.ro (i := iv) (F := Fv) hPW honr222 (by decide) (by decide)
              have hTA : TA (Fr222 89) (Fr222 90) := by rw [show Fr222 89 = Fv 89 from (honr222.2 89 (by decide)).1, show Fr222 90 = Fv 90 from (honr222.2 90 (by decide)).1]; exact hTA
              have hi_78_17 : ir222 78 17 = nI 85 := (honr222.1 78 17 (Or.inr (by decide))).trans hi_78_17
              have ek_54r222 : Int32.toInt (ir222 78 54) = Int32.toInt (iv 78 54) := congrArg Int32.toInt (honr222.1 78 54 (Or.inr (by decide)))
              have ek_63r222 : Int32.toInt (ir222 78 63) = Int32.toInt (iv 78 63) := congrArg Int32.toInt (honr222.1 78 63 (Or.inr (by decide)))
              refine lv_aload_n (pc := 113) C0.1 C0.2.1 dX10_plain_113 rfl (lv_at hl 3 rfl) ?_
              refine xget (pc := 114) C0 hH 78 59 clX10 ⟨Nat.le_of_ble_eq_true rfl, Nat.le_of_ble_eq_true rfl⟩ ⟨rfl, rfl⟩ (Nat.le_of_ble_eq_true rfl) fl_X10_133 (v := .ref (b + 118)) rfl dX10_plain_114 ?_
              refine lv_iload_n (pc := 117) C0.1 C0.2.1 dX10_plain_117 rfl (lv_at hl 2 rfl) ?_
              refine lv_aload_n (pc := 118) C0.1 C0.2.1 dX10_plain_118 rfl (lv_at hl 3 rfl) ?_
              refine xget (pc := 119) C0 hH 78 45 clX10 ⟨Nat.le_of_ble_eq_true rfl, Nat.le_of_ble_eq_true rfl⟩ ⟨rfl, rfl⟩ (Nat.le_of_ble_eq_true rfl) fl_X10_106 (v := .ref (b + 109)) rfl dX10_plain_119 ?_
              refine lv_iload_n (pc := 122) C0.1 C0.2.1 dX10_plain_122 rfl (lv_at hl 0 rfl) ?_
              refine xiald (pc := 123) (N := 1202) C0 hH 109 ⟨Nat.le_of_ble_eq_true rfl, Nat.le_of_ble_eq_true rfl⟩ ⟨rfl, rfl⟩ (vI (by omega) (by omega)) dX10_plain_123 ?_
              refine xiast (pc := 124) (N := 1202) C0 (Nat.le_of_ble_eq_true rfl) hH hS 118 ⟨Nat.le_of_ble_eq_true rfl, Nat.le_of_ble_eq_true rfl⟩ ⟨rfl, rfl⟩ (vI (by omega) (by omega)) dX10_plain_124 (fun _ locs hH hS _ => ?_)
              have hH : Hd D tA b 78 52 zz ir222 (va_up Fr222 118 (upd (Fr222 118) (Int32.toNatClampNeg x203) (Fr222 109 (Int32.toNatClampNeg x205)))) Gr222 _ := hH
              have hp1 : (Fv 118 (Int32.toNatClampNeg x203)).toInt = -1 := (by have : Int32.toInt (-1) = -1 := rfl; omega)
              have e7b : Fr222 117 = Fv 117 := (honr222.2 117 (by decide)).1
              have e8b : Fr222 118 = Fv 118 := (honr222.2 118 (by decide)).1
              have hxb : ¬ (Fr222 117 (Int32.toNatClampNeg x203)).toInt = -9 := by rw [e7b]; exact hxn
              have hpb : (Fr222 118 (Int32.toNatClampNeg x203)).toInt = -1 := by rw [e8b]; exact hp1
              have hx3b : x205 = Fr222 117 (Int32.toNatClampNeg x203) := by rw [e7b]; exact ex205
              obtain ⟨hVn, hlt, hPW⟩ := PW.s2 (i := ir222) (F := Fr222) (i2 := ir222) (F2 := (va_up Fr222 118 (upd (Fr222 118) (Int32.toNatClampNeg x203) (Fr222 109 (Int32.toNatClampNeg x205))))) hPW (show (((Int32.toNatClampNeg x203) : Nat) : Int) + 1 = (ir222 78 63).toInt from by omega) hxb hpb rfl (fun k a1 a2 => va_up_ne _ _ (by omega)) rfl rfl (congrArg (fun z => upd (Fr222 118) (Int32.toNatClampNeg x203) (Fr222 109 (cl z))) hx3b)
              have hcn := vcn_mk (N := 6000) hVn (by omega)
              refine lv_goto (pc := 125) (tgt := 237) C0.1 C0.2.1 dX10_plain_125 (by decide) ?_
              refine lv_goto (pc := 237) (tgt := 27) C0.1 C0.2.1 dX10_plain_237 (by decide) ?_
              exact ih27 nb ni np po pr ho (vmk V (2000 + cl (Fr222 117 (Int32.toNatClampNeg x203)))) ir222 (va_up Fr222 118 (upd (Fr222 118) (Int32.toNatClampNeg x203) (Fr222 109 (Int32.toNatClampNeg x205)))) Gr222 _ _ _ (RO.f (RO.tr (RO.tr RO.rf h1 (by decide) (by decide)) honr222 (by decide) (by decide)) (by decide)) hPW (show 0 ≤ Int32.toInt (ir222 78 56) ∧ Int32.toInt (ir222 78 56) + 2 * Int32.toInt (ir222 78 63) ≤ 150000 * (vcn (vmk V (2000 + cl (Fr222 117 (Int32.toNatClampNeg x203)))) 6000 : Int) + 2 from by have : vcn (vmk V (2000 + cl (Fr222 117 (Int32.toNatClampNeg x203)))) 6000 = vcn V 6000 + 1 := hcn; omega) (show 12000 - 2 * (vcn (vmk V (2000 + cl (Fr222 117 (Int32.toNatClampNeg x203)))) 6000 : Int) + Int32.toInt (ir222 78 63) ≤ _ from by have : vcn (vmk V (2000 + cl (Fr222 117 (Int32.toNatClampNeg x203)))) 6000 = vcn V 6000 + 1 := hcn; omega) hH hS (lv_sub hl [3] rfl)
        · have : Int32.toInt (-9) = (-9) := rfl
          have c206 := congrArg Int32.toInt c206
          refine lv_aload_n (pc := 61) C0.1 C0.2.1 dX10_plain_61 rfl (lv_at hl 3 rfl) ?_
          refine lv_iload_n (pc := 62) C0.1 C0.2.1 dX10_plain_62 rfl (lv_at hl 1 rfl) ?_
          refine xcVI (pc := 63) 78 [.int x204] (m_isStanding l D tA b iv Fv Gv x204 (show 0 ≤ Int32.toInt x204 ∧ Int32.toInt x204 < 1202 from by omega)) C0 hH hS clX10 rfl ⟨⟨Nat.le_of_ble_eq_true rfl, Nat.le_of_ble_eq_true rfl⟩, rfl, rfl⟩ cw_X10_387 rfl ⟨Nat.le_of_ble_eq_true rfl, Nat.le_of_ble_eq_true rfl⟩ hl.1 rfl (Nat.le_of_ble_eq_true rfl) dX10_plain_63 ⟨Nat.le_of_ble_eq_true rfl, Nat.le_of_ble_eq_true rfl⟩ (fun r223 ir223 Fr223 Gr223 _ locs hp hH hS => ?_)
          obtain ⟨hu, h01r223⟩ := hp
          cases hu
          refine lv_if_eq (pc := 66) (tgt := 75) C0.1 C0.2.1 dX10_plain_66 (by decide) (fun c224 => ?_) (fun c224 => ?_)
          · have : Int32.toInt 0 = 0 := rfl
            have c224 := congrArg Int32.toInt c224
            refine lv_aload_n (pc := 75) C0.1 C0.2.1 dX10_plain_75 rfl (lv_at hl 3 rfl) ?_
            refine lv_dup (pc := 76) C0.1 C0.2.1 dX10_plain_76 rfl ?_
            refine xget (pc := 77) C0 hH 78 63 clX10 ⟨Nat.le_of_ble_eq_true rfl, Nat.le_of_ble_eq_true rfl⟩ ⟨rfl, rfl⟩ (Nat.le_of_ble_eq_true rfl) fl_X10_375 (v := .int (iv 78 63)) rfl dX10_plain_77 ?_
            refine lv_iconst (pc := 80) (v := 1) C0.1 C0.2.1 dX10_plain_80 (by decide) ?_
            have : Int32.toInt 1 = 1 := rfl
            refine lv_isub (pc := 81) C0.1 C0.2.1 dX10_plain_81 ?_
            refine lv_topi (fun x225 ex225 => ?_)
            have hx225 : Int32.toInt x225 = Int32.toInt (iv 78 63) - Int32.toInt 1 := by rw [ex225]; exact fb_subI (by omega) (by omega)
            refine xputI (pc := 82) C0 (Nat.le_of_ble_eq_true rfl) hH hS 78 63 clX10 ⟨Nat.le_of_ble_eq_true rfl, Nat.le_of_ble_eq_true rfl⟩ ⟨rfl, rfl⟩ ⟨Nat.le_of_ble_eq_true rfl, rfl, rfl⟩ fl_X10_375 (x := x225) ⟨rfl, rfl⟩ dX10_plain_82 (fun _ locs hH hS _ => ?_)
            have hH : Hd D tA b 78 52 zz (up2 iv 78 63 x225) Fv Gv _ := hH
            have hPW : PW nb ni np po pr ho V (up2 iv 78 63 x225) Fv := PW.s1 (i := iv) (F := Fv) hPW (show Int32.toInt x225 = (iv 78 63).toInt - 1 from by omega) (by omega)
            refine lv_goto (pc := 85) (tgt := 237) C0.1 C0.2.1 dX10_plain_85 (by decide) ?_
            refine lv_goto (pc := 237) (tgt := 27) C0.1 C0.2.1 dX10_plain_237 (by decide) ?_
            exact ih27 nb ni np po pr ho V (up2 iv 78 63 x225) Fv Gv _ _ _ (RO.i (RO.tr RO.rf h1 (by decide) (by decide)) (by decide)) hPW (show 0 ≤ Int32.toInt (iv 78 56) ∧ Int32.toInt (iv 78 56) + 2 * Int32.toInt x225 ≤ 150000 * (vcn V 6000 : Int) + 2 from by omega) (show 12000 - 2 * (vcn V 6000 : Int) + Int32.toInt x225 ≤ _ from by omega) hH hS (lv_sub hl [3] rfl)
          · have : Int32.toInt 0 = 0 := rfl
            have c224 : ¬ _ := fun q => c224 (Int32.toInt_inj.mp q)
            refine lv_aload_n (pc := 69) C0.1 C0.2.1 dX10_plain_69 rfl (lv_at hl 3 rfl) ?_
            refine lv_bipush (pc := 70) (v := 125) C0.1 C0.2.1 dX10_plain_70 (by decide) ?_
            refine xcVV (pc := 72) 78 [.int 125] (m_sign l D tA b iv Fv Gv 125 (show 0 ≤ Int32.toInt (iv 78 56) ∧ Int32.toInt (iv 78 56) ≤ 1900000000 from by omega) ) C0 hH hS clX10 rfl ⟨⟨Nat.le_of_ble_eq_true rfl, Nat.le_of_ble_eq_true rfl⟩, rfl, rfl⟩ cw_X10_390 rfl ⟨Nat.le_of_ble_eq_true rfl, Nat.le_of_ble_eq_true rfl⟩ hl.1 rfl (Nat.le_of_ble_eq_true rfl) dX10_plain_72 ⟨Nat.le_of_ble_eq_true rfl, Nat.le_of_ble_eq_true rfl⟩ (fun ir226 Fr226 Gr226 _ locs hp hH hS => ?_)
            obtain ⟨honr226, hdsr226⟩ := hp
            have hdsr226 : Int32.toInt (iv 78 56) ≤ (ir226 78 56).toInt ∧ (ir226 78 56).toInt ≤ Int32.toInt (iv 78 56) + 2 := hdsr226
            have hPW : PW nb ni np po pr ho V ir226 Fr226 := PW.ro (i := iv) (F := Fv) hPW honr226 (by decide) (by decide)
            have hTA : TA (Fr226 89) (Fr226 90) := by rw [show Fr226 89 = Fv 89 from (honr226.2 89 (by decide)).1, show Fr226 90 = Fv 90 from (honr226.2 90 (by decide)).1]; exact hTA
            have hi_78_17 : ir226 78 17 = nI 85 := (honr226.1 78 17 (Or.inr (by decide))).trans hi_78_17
            have ek_54r226 : Int32.toInt (ir226 78 54) = Int32.toInt (iv 78 54) := congrArg Int32.toInt (honr226.1 78 54 (Or.inr (by decide)))
            have ek_63r226 : Int32.toInt (ir226 78 63) = Int32.toInt (iv 78 63) := congrArg Int32.toInt (honr226.1 78 63 (Or.inr (by decide)))
            refine lv_aload_n (pc := 75) C0.1 C0.2.1 dX10_plain_75 rfl (lv_at hl 3 rfl) ?_
            refine lv_dup (pc := 76) C0.1 C0.2.1 dX10_plain_76 rfl ?_
            refine xget (pc := 77) C0 hH 78 63 clX10 ⟨Nat.le_of_ble_eq_true rfl, Nat.le_of_ble_eq_true rfl⟩ ⟨rfl, rfl⟩ (Nat.le_of_ble_eq_true rfl) fl_X10_375 (v := .int (ir226 78 63)) rfl dX10_plain_77 ?_
            refine lv_iconst (pc := 80) (v := 1) C0.1 C0.2.1 dX10_plain_80 (by decide) ?_
            have : Int32.toInt 1 = 1 := rfl
            refine lv_isub (pc := 81) C0.1 C0.2.1 dX10_plain_81 ?_
            refine lv_topi (fun x227 ex227 => ?_)
            have hx227 : Int32.toInt x227 = Int32.toInt (ir226 78 63) - Int32.toInt 1 := by rw [ex227]; exact fb_subI (by omega) (by omega)
            refine xputI (pc := 82) C0 (Nat.le_of_ble_eq_true rfl) hH hS 78 63 clX10 ⟨Nat.le_of_ble_eq_true rfl, Nat.le_of_ble_eq_true rfl⟩ ⟨rfl, rfl⟩ ⟨Nat.le_of_ble_eq_true rfl, rfl, rfl⟩ fl_X10_375 (x := x227) ⟨rfl, rfl⟩ dX10_plain_82 (fun _ locs hH hS _ => ?_)
            have hH : Hd D tA b 78 52 zz (up2 ir226 78 63 x227) Fr226 Gr226 _ := hH
            have hPW : PW nb ni np po pr ho V (up2 ir226 78 63 x227) Fr226 := PW.s1 (i := ir226) (F := Fr226) hPW (show Int32.toInt x227 = (ir226 78 63).toInt - 1 from by omega) (by omega)
            refine lv_goto (pc := 85) (tgt := 237) C0.1 C0.2.1 dX10_plain_85 (by decide) ?_
            refine lv_goto (pc := 237) (tgt := 27) C0.1 C0.2.1 dX10_plain_237 (by decide) ?_
            exact ih27 nb ni np po pr ho V (up2 ir226 78 63 x227) Fr226 Gr226 _ _ _ (RO.i (RO.tr (RO.tr RO.rf h1 (by decide) (by decide)) honr226 (by decide) (by decide)) (by decide)) hPW (show 0 ≤ Int32.toInt (ir226 78 56) ∧ Int32.toInt (ir226 78 56) + 2 * Int32.toInt x227 ≤ 150000 * (vcn V 6000 : Int) + 2 from by omega) (show 12000 - 2 * (vcn V 6000 : Int) + Int32.toInt x227 ≤ _ from by omega) hH hS (lv_sub hl [3] rfl)
  refine lv_aload_n (pc := 0) C0.1 C0.2.1 dX10_plain_0 rfl (lv_at hl 0 rfl) ?_
  refine xget (pc := 1) C0 hH 78 15 clX10 ⟨Nat.le_of_ble_eq_true rfl, Nat.le_of_ble_eq_true rfl⟩ ⟨rfl, rfl⟩ (Nat.le_of_ble_eq_true rfl) fl_X10_211 (v := .int (i 78 15)) rfl dX10_plain_1 ?_
  refine lv_iconst (pc := 4) (v := 1) C0.1 C0.2.1 dX10_plain_4 (by decide) ?_
  refine lv_icmp_eq (pc := 5) (tgt := 11) C0.1 C0.2.1 dX10_plain_5 (by decide) (fun c1 => ?_) (fun c1 => ?_)
  · have : Int32.toInt 1 = 1 := rfl
    have c1 := congrArg Int32.toInt c1
    obtain ⟨⟨nb, ni, np, po, pr, ho, ⟨hnb1, -, -⟩, hTO⟩, -⟩ := hIs.gt (by have : Int32.toInt 1 = 1 := rfl; omega)
    refine lv_aload_n (pc := 11) C0.1 C0.2.1 dX10_plain_11 rfl (lv_at hl 0 rfl) ?_
    refine lv_iconst (pc := 12) (v := 0) C0.1 C0.2.1 dX10_plain_12 (by decide) ?_
    refine xputI (pc := 13) C0 (Nat.le_of_ble_eq_true rfl) hH hS 78 56 clX10 ⟨Nat.le_of_ble_eq_true rfl, Nat.le_of_ble_eq_true rfl⟩ ⟨rfl, rfl⟩ ⟨Nat.le_of_ble_eq_true rfl, rfl, rfl⟩ fl_X10_369 (x := 0) ⟨rfl, rfl⟩ dX10_plain_13 (fun _ locs hH hS _ => ?_)
    have hH : Hd D tA b 78 52 zz (up2 i 78 56 0) F G _ := hH
    refine lv_aload_n (pc := 16) C0.1 C0.2.1 dX10_plain_16 rfl (lv_at hl 0 rfl) ?_
    refine lv_iconst (pc := 17) (v := 0) C0.1 C0.2.1 dX10_plain_17 (by decide) ?_
    refine xputI (pc := 18) C0 (Nat.le_of_ble_eq_true rfl) hH hS 78 63 clX10 ⟨Nat.le_of_ble_eq_true rfl, Nat.le_of_ble_eq_true rfl⟩ ⟨rfl, rfl⟩ ⟨Nat.le_of_ble_eq_true rfl, rfl, rfl⟩ fl_X10_375 (x := 0) ⟨rfl, rfl⟩ dX10_plain_18 (fun _ locs hH hS _ => ?_)
    have hH : Hd D tA b 78 52 zz (up2 (up2 i 78 56 0) 78 63 0) F G _ := hH
    refine lv_aload_n (pc := 21) C0.1 C0.2.1 dX10_plain_21 rfl (lv_at hl 0 rfl) ?_
    refine lv_iconst (pc := 22) (v := 0) C0.1 C0.2.1 dX10_plain_22 (by decide) ?_
    refine lv_iconst (pc := 23) (v := 0) C0.1 C0.2.1 dX10_plain_23 (by decide) ?_
    refine xcVV (pc := 24) 78 [.int 0, .int 0] (m_enter l D tA b (up2 (up2 i 78 56 0) 78 63 0) F G 0 0 (show 0 ≤ Int32.toInt 0 ∧ Int32.toInt 0 < 1202 from by have : Int32.toInt 0 = 0 := rfl; omega) (show 0 ≤ Int32.toInt 0 ∧ Int32.toInt 0 < 1202 from by first | omega | decide)) C0 hH hS clX10 rfl ⟨⟨Nat.le_of_ble_eq_true rfl, Nat.le_of_ble_eq_true rfl⟩, rfl, rfl⟩ cw_X10_384 rfl ⟨Nat.le_of_ble_eq_true rfl, Nat.le_of_ble_eq_true rfl⟩ hl.1 rfl (Nat.le_of_ble_eq_true rfl) dX10_plain_24 ⟨Nat.le_of_ble_eq_true rfl, Nat.le_of_ble_eq_true rfl⟩ (fun ir2 Fr2 Gr2 _ locs hp hH hS => ?_)
    obtain ⟨honr2, hdpr2, h116r2, h117r2, h118r2, h119r2⟩ := hp
    have hdpr2 : (ir2 78 63).toInt = Int32.toInt 0 + 1 := hdpr2
    have h116r2 : Fr2 116 = upd (F 116) (Int32.toNatClampNeg 0) 0 := h116r2
    have h117r2 : Fr2 117 = upd (F 117) (Int32.toNatClampNeg 0) (F 103 (Int32.toNatClampNeg 0)) := h117r2
    have h118r2 : Fr2 118 = upd (F 118) (Int32.toNatClampNeg 0) (-1) := h118r2
    have h119r2 : Fr2 119 = upd (F 119) (Int32.toNatClampNeg 0) 0 := h119r2
    have hi_78_17 : ir2 78 17 = nI 85 := (honr2.1 78 17 (Or.inr (by decide))).trans hi_78_17
    have ek_54r2 : Int32.toInt (ir2 78 54) = Int32.toInt (i 78 54) := congrArg Int32.toInt (honr2.1 78 54 (Or.inr (by decide)))
    have ek_56r2 : Int32.toInt (ir2 78 56) = Int32.toInt 0 := congrArg Int32.toInt (honr2.1 78 56 (Or.inr (by decide)))
    exact L27 12001 nb ni np po pr ho (fun _ => false) ir2 Fr2 Gr2 _ _ _ (RO.tr (RO.i (RO.i RO.rf (by decide)) (by decide)) honr2 (by decide) (by decide)) (PW.s5 (i := (up2 (up2 i 78 56 0) 78 63 0)) (F := F) (cI := 0) (PW.zero hTO rfl) rfl ⟨(show Int32.toInt 0 ≤ 0 from by decide), by omega⟩ (fun d hd => absurd hd (show ¬ (d : Int) < Int32.toInt 0 from by have : Int32.toInt 0 = 0 := rfl; omega)) (Or.inl rfl) rfl (fun _ _ _ => ⟨rfl, rfl⟩) hdpr2 (fun k a1 a2 => (honr2.2 k (fun q => by simp only [List.mem_cons, List.not_mem_nil, or_false] at q; omega)).1) h116r2 h117r2 h118r2) (show 0 ≤ Int32.toInt (ir2 78 56) ∧ Int32.toInt (ir2 78 56) + 2 * Int32.toInt (ir2 78 63) ≤ 150000 * (vcn (fun _ => false) 6000 : Int) + 2 from by have := vcn_z 6000; have : Int32.toInt 0 = 0 := rfl; omega) (show 12000 - 2 * (vcn (fun _ => false) 6000 : Int) + Int32.toInt (ir2 78 63) ≤ _ from by have := vcn_z 6000; have : Int32.toInt 0 = 0 := rfl; omega) hH hS (lv_sub hl [0] rfl)
  · have : Int32.toInt 1 = 1 := rfl
    have c1 : ¬ _ := fun q => c1 (Int32.toInt_inj.mp q)
    refine lv_bipush (pc := 8) (v := (-3)) C0.1 C0.2.1 dX10_plain_8 (by decide) ?_
    exact xiret (pc := 10) C0 hr hH hS dX10_plain_10 ⟨hI, RO.rf⟩
