set_option maxRecDepth 20000 in
theorem cw_X10_415 : CwV RX10 415 yX10_writePart cX10_writePart 5 none 3 := ⟨wm 1546 (by decide +kernel) rfl, wm 1548 (by decide +kernel) rfl, wms 78 (by decide +kernel) rfl, wm 11 (by decide +kernel) rfl, wm 1549 rfl rfl, by decide +kernel⟩
set_option maxRecDepth 20000 in
theorem cw_X10_412 : CwV RX10 412 yX10_isWritable cX10_isWritable 5 (some .boolean) 0 := ⟨wm 1538 (by decide +kernel) rfl, wm 1540 (by decide +kernel) rfl, wms 76 (by decide +kernel) rfl, wm 11 (by decide +kernel) rfl, wm 1541 rfl rfl, by decide +kernel⟩
theorem dX10_write_59 : decode cX10_write 59 = .ok (.aload_n 0, 1) := by decide +kernel
theorem dX10_write_60 : decode cX10_write 60 = .ok (.getfield 375, 3) := by decide +kernel
theorem dX10_write_63 : decode cX10_write 63 = .ok (.ifCond .le 177, 3) := by decide +kernel
theorem dX10_write_240 : decode cX10_write 240 = .ok (.aload_n 0, 1) := by decide +kernel
theorem dX10_write_241 : decode cX10_write 241 = .ok (.getfield 369, 3) := by decide +kernel
theorem dX10_write_244 : decode cX10_write 244 = .ok (.ifCond .le 9, 3) := by decide +kernel
theorem dX10_write_253 : decode cX10_write 253 = .ok (.aload_n 0, 1) := by decide +kernel
theorem dX10_write_254 : decode cX10_write 254 = .ok (.invokevirtual 396, 3) := by decide +kernel
theorem dX10_write_257 : decode cX10_write 257 = .ok (.ireturn, 1) := by decide +kernel
theorem dX10_write_247 : decode cX10_write 247 = .ok (.aload_n 0, 1) := by decide +kernel
theorem dX10_write_248 : decode cX10_write 248 = .ok (.bipush 10, 2) := by decide +kernel
theorem dX10_write_250 : decode cX10_write 250 = .ok (.invokevirtual 372, 3) := by decide +kernel
theorem dX10_write_66 : decode cX10_write 66 = .ok (.aload_n 0, 1) := by decide +kernel
theorem dX10_write_67 : decode cX10_write 67 = .ok (.getfield 375, 3) := by decide +kernel
theorem dX10_write_70 : decode cX10_write 70 = .ok (.iconst 1, 1) := by decide +kernel
theorem dX10_write_71 : decode cX10_write 71 = .ok (.isub, 1) := by decide +kernel
theorem dX10_write_72 : decode cX10_write 72 = .ok (.istore_n 2, 1) := by decide +kernel
theorem dX10_write_73 : decode cX10_write 73 = .ok (.aload_n 0, 1) := by decide +kernel
theorem dX10_write_74 : decode cX10_write 74 = .ok (.getfield 130, 3) := by decide +kernel
theorem dX10_write_77 : decode cX10_write 77 = .ok (.iload_n 2, 1) := by decide +kernel
theorem dX10_write_78 : decode cX10_write 78 = .ok (.iaload, 1) := by decide +kernel
theorem dX10_write_79 : decode cX10_write 79 = .ok (.istore_n 3, 1) := by decide +kernel
theorem dX10_write_80 : decode cX10_write 80 = .ok (.iload_n 3, 1) := by decide +kernel
theorem dX10_write_81 : decode cX10_write 81 = .ok (.bipush (-9), 2) := by decide +kernel
theorem dX10_write_83 : decode cX10_write 83 = .ok (.if_icmp .ne 16, 3) := by decide +kernel
theorem dX10_write_99 : decode cX10_write 99 = .ok (.aload_n 0, 1) := by decide +kernel
theorem dX10_write_100 : decode cX10_write 100 = .ok (.getfield 133, 3) := by decide +kernel
theorem dX10_write_103 : decode cX10_write 103 = .ok (.iload_n 2, 1) := by decide +kernel
theorem dX10_write_104 : decode cX10_write 104 = .ok (.iaload, 1) := by decide +kernel
theorem dX10_write_105 : decode cX10_write 105 = .ok (.iconst (-1), 1) := by decide +kernel
theorem dX10_write_106 : decode cX10_write 106 = .ok (.if_icmp .ne 60, 3) := by decide +kernel
theorem dX10_write_166 : decode cX10_write 166 = .ok (.aload_n 0, 1) := by decide +kernel
theorem dX10_write_167 : decode cX10_write 167 = .ok (.getfield 133, 3) := by decide +kernel
theorem dX10_write_170 : decode cX10_write 170 = .ok (.iload_n 2, 1) := by decide +kernel
theorem dX10_write_171 : decode cX10_write 171 = .ok (.iaload, 1) := by decide +kernel
theorem dX10_write_172 : decode cX10_write 172 = .ok (.bipush (-9), 2) := by decide +kernel
theorem dX10_write_174 : decode cX10_write 174 = .ok (.if_icmp .ne 25, 3) := by decide +kernel
theorem dX10_write_199 : decode cX10_write 199 = .ok (.aload_n 0, 1) := by decide +kernel
theorem dX10_write_200 : decode cX10_write 200 = .ok (.getfield 112, 3) := by decide +kernel
theorem dX10_write_203 : decode cX10_write 203 = .ok (.aload_n 0, 1) := by decide +kernel
theorem dX10_write_204 : decode cX10_write 204 = .ok (.getfield 133, 3) := by decide +kernel
theorem dX10_write_207 : decode cX10_write 207 = .ok (.iload_n 2, 1) := by decide +kernel
theorem dX10_write_208 : decode cX10_write 208 = .ok (.iaload, 1) := by decide +kernel
theorem dX10_write_209 : decode cX10_write 209 = .ok (.iaload, 1) := by decide +kernel
theorem dX10_write_210 : decode cX10_write 210 = .ok (.istore 4, 2) := by decide +kernel
theorem dX10_write_212 : decode cX10_write 212 = .ok (.aload_n 0, 1) := by decide +kernel
theorem dX10_write_213 : decode cX10_write 213 = .ok (.getfield 133, 3) := by decide +kernel
theorem dX10_write_216 : decode cX10_write 216 = .ok (.iload_n 2, 1) := by decide +kernel
theorem dX10_write_217 : decode cX10_write 217 = .ok (.aload_n 0, 1) := by decide +kernel
theorem dX10_write_218 : decode cX10_write 218 = .ok (.getfield 115, 3) := by decide +kernel
theorem dX10_write_221 : decode cX10_write 221 = .ok (.aload_n 0, 1) := by decide +kernel
theorem dX10_write_222 : decode cX10_write 222 = .ok (.getfield 133, 3) := by decide +kernel
theorem dX10_write_225 : decode cX10_write 225 = .ok (.iload_n 2, 1) := by decide +kernel
theorem dX10_write_226 : decode cX10_write 226 = .ok (.iaload, 1) := by decide +kernel
theorem dX10_write_227 : decode cX10_write 227 = .ok (.iaload, 1) := by decide +kernel
theorem dX10_write_228 : decode cX10_write 228 = .ok (.iastore, 1) := by decide +kernel
theorem dX10_write_229 : decode cX10_write 229 = .ok (.aload_n 0, 1) := by decide +kernel
theorem dX10_write_230 : decode cX10_write 230 = .ok (.iload_n 2, 1) := by decide +kernel
theorem dX10_write_231 : decode cX10_write 231 = .ok (.iload 4, 2) := by decide +kernel
theorem dX10_write_233 : decode cX10_write 233 = .ok (.iload_n 1, 1) := by decide +kernel
theorem dX10_write_234 : decode cX10_write 234 = .ok (.invokevirtual 415, 3) := by decide +kernel
theorem dX10_write_237 : decode cX10_write 237 = .ok (.goto (-178), 3) := by decide +kernel
theorem dX10_write_177 : decode cX10_write 177 = .ok (.aload_n 0, 1) := by decide +kernel
theorem dX10_write_178 : decode cX10_write 178 = .ok (.getfield 130, 3) := by decide +kernel
theorem dX10_write_181 : decode cX10_write 181 = .ok (.iload_n 2, 1) := by decide +kernel
theorem dX10_write_182 : decode cX10_write 182 = .ok (.aload_n 0, 1) := by decide +kernel
theorem dX10_write_183 : decode cX10_write 183 = .ok (.getfield 100, 3) := by decide +kernel
theorem dX10_write_186 : decode cX10_write 186 = .ok (.iload_n 3, 1) := by decide +kernel
theorem dX10_write_187 : decode cX10_write 187 = .ok (.iaload, 1) := by decide +kernel
theorem dX10_write_188 : decode cX10_write 188 = .ok (.iastore, 1) := by decide +kernel
theorem dX10_write_189 : decode cX10_write 189 = .ok (.aload_n 0, 1) := by decide +kernel
theorem dX10_write_190 : decode cX10_write 190 = .ok (.getfield 133, 3) := by decide +kernel
theorem dX10_write_193 : decode cX10_write 193 = .ok (.iload_n 2, 1) := by decide +kernel
theorem dX10_write_194 : decode cX10_write 194 = .ok (.iconst (-1), 1) := by decide +kernel
theorem dX10_write_195 : decode cX10_write 195 = .ok (.iastore, 1) := by decide +kernel
theorem dX10_write_196 : decode cX10_write 196 = .ok (.goto 41, 3) := by decide +kernel
theorem dX10_write_109 : decode cX10_write 109 = .ok (.aload_n 0, 1) := by decide +kernel
theorem dX10_write_110 : decode cX10_write 110 = .ok (.getfield 73, 3) := by decide +kernel
theorem dX10_write_113 : decode cX10_write 113 = .ok (.aload_n 0, 1) := by decide +kernel
theorem dX10_write_114 : decode cX10_write 114 = .ok (.getfield 127, 3) := by decide +kernel
theorem dX10_write_117 : decode cX10_write 117 = .ok (.iload_n 2, 1) := by decide +kernel
theorem dX10_write_118 : decode cX10_write 118 = .ok (.iaload, 1) := by decide +kernel
theorem dX10_write_119 : decode cX10_write 119 = .ok (.iaload, 1) := by decide +kernel
theorem dX10_write_120 : decode cX10_write 120 = .ok (.iconst 4, 1) := by decide +kernel
theorem dX10_write_121 : decode cX10_write 121 = .ok (.if_icmp .eq 13, 3) := by decide +kernel
theorem dX10_write_134 : decode cX10_write 134 = .ok (.aload_n 0, 1) := by decide +kernel
theorem dX10_write_135 : decode cX10_write 135 = .ok (.getfield 139, 3) := by decide +kernel
theorem dX10_write_138 : decode cX10_write 138 = .ok (.iload_n 2, 1) := by decide +kernel
theorem dX10_write_139 : decode cX10_write 139 = .ok (.aload_n 0, 1) := by decide +kernel
theorem dX10_write_140 : decode cX10_write 140 = .ok (.getfield 399, 3) := by decide +kernel
theorem dX10_write_143 : decode cX10_write 143 = .ok (.iastore, 1) := by decide +kernel
theorem dX10_write_144 : decode cX10_write 144 = .ok (.aload_n 0, 1) := by decide +kernel
theorem dX10_write_145 : decode cX10_write 145 = .ok (.getfield 142, 3) := by decide +kernel
theorem dX10_write_148 : decode cX10_write 148 = .ok (.iload_n 2, 1) := by decide +kernel
theorem dX10_write_149 : decode cX10_write 149 = .ok (.iconst 0, 1) := by decide +kernel
theorem dX10_write_150 : decode cX10_write 150 = .ok (.bastore, 1) := by decide +kernel
theorem dX10_write_151 : decode cX10_write 151 = .ok (.aload_n 0, 1) := by decide +kernel
theorem dX10_write_152 : decode cX10_write 152 = .ok (.getfield 133, 3) := by decide +kernel
theorem dX10_write_155 : decode cX10_write 155 = .ok (.iload_n 2, 1) := by decide +kernel
theorem dX10_write_156 : decode cX10_write 156 = .ok (.aload_n 0, 1) := by decide +kernel
theorem dX10_write_157 : decode cX10_write 157 = .ok (.getfield 106, 3) := by decide +kernel
theorem dX10_write_160 : decode cX10_write 160 = .ok (.iload_n 3, 1) := by decide +kernel
theorem dX10_write_161 : decode cX10_write 161 = .ok (.iaload, 1) := by decide +kernel
theorem dX10_write_162 : decode cX10_write 162 = .ok (.iastore, 1) := by decide +kernel
theorem dX10_write_163 : decode cX10_write 163 = .ok (.goto 74, 3) := by decide +kernel
theorem dX10_write_124 : decode cX10_write 124 = .ok (.aload_n 0, 1) := by decide +kernel
theorem dX10_write_125 : decode cX10_write 125 = .ok (.aload_n 0, 1) := by decide +kernel
theorem dX10_write_126 : decode cX10_write 126 = .ok (.getfield 136, 3) := by decide +kernel
theorem dX10_write_129 : decode cX10_write 129 = .ok (.iload_n 2, 1) := by decide +kernel
theorem dX10_write_130 : decode cX10_write 130 = .ok (.iaload, 1) := by decide +kernel
theorem dX10_write_131 : decode cX10_write 131 = .ok (.invokevirtual 406, 3) := by decide +kernel
theorem dX10_write_86 : decode cX10_write 86 = .ok (.aload_n 0, 1) := by decide +kernel
theorem dX10_write_87 : decode cX10_write 87 = .ok (.dup, 1) := by decide +kernel
theorem dX10_write_88 : decode cX10_write 88 = .ok (.getfield 375, 3) := by decide +kernel
theorem dX10_write_91 : decode cX10_write 91 = .ok (.iconst 1, 1) := by decide +kernel
theorem dX10_write_92 : decode cX10_write 92 = .ok (.isub, 1) := by decide +kernel
theorem dX10_write_93 : decode cX10_write 93 = .ok (.putfield 375, 3) := by decide +kernel
theorem dX10_write_96 : decode cX10_write 96 = .ok (.goto 141, 3) := by decide +kernel
theorem dX10_write_0 : decode cX10_write 0 = .ok (.iload_n 1, 1) := by decide +kernel
theorem dX10_write_1 : decode cX10_write 1 = .ok (.i2l, 1) := by decide +kernel
theorem dX10_write_2 : decode cX10_write 2 = .ok (.lconst 1, 1) := by decide +kernel
theorem dX10_write_3 : decode cX10_write 3 = .ok (.ldc2_w 214, 3) := by decide +kernel
theorem dX10_write_6 : decode cX10_write 6 = .ok (.invokestatic 175, 3) := by decide +kernel
theorem dX10_write_9 : decode cX10_write 9 = .ok (.ifCond .ne 6, 3) := by decide +kernel
theorem dX10_write_15 : decode cX10_write 15 = .ok (.aload_n 0, 1) := by decide +kernel
theorem dX10_write_16 : decode cX10_write 16 = .ok (.getfield 211, 3) := by decide +kernel
theorem dX10_write_19 : decode cX10_write 19 = .ok (.iconst 1, 1) := by decide +kernel
theorem dX10_write_20 : decode cX10_write 20 = .ok (.if_icmp .ne 10, 3) := by decide +kernel
theorem dX10_write_30 : decode cX10_write 30 = .ok (.bipush (-3), 2) := by decide +kernel
theorem dX10_write_32 : decode cX10_write 32 = .ok (.ireturn, 1) := by decide +kernel
theorem dX10_write_23 : decode cX10_write 23 = .ok (.aload_n 0, 1) := by decide +kernel
theorem dX10_write_24 : decode cX10_write 24 = .ok (.invokevirtual 412, 3) := by decide +kernel
theorem dX10_write_27 : decode cX10_write 27 = .ok (.ifCond .ne 6, 3) := by decide +kernel
theorem dX10_write_33 : decode cX10_write 33 = .ok (.aload_n 0, 1) := by decide +kernel
theorem dX10_write_34 : decode cX10_write 34 = .ok (.iconst 0, 1) := by decide +kernel
theorem dX10_write_35 : decode cX10_write 35 = .ok (.putfield 369, 3) := by decide +kernel
theorem dX10_write_38 : decode cX10_write 38 = .ok (.aload_n 0, 1) := by decide +kernel
theorem dX10_write_39 : decode cX10_write 39 = .ok (.iconst 0, 1) := by decide +kernel
theorem dX10_write_40 : decode cX10_write 40 = .ok (.putfield 375, 3) := by decide +kernel
theorem dX10_write_43 : decode cX10_write 43 = .ok (.aload_n 0, 1) := by decide +kernel
theorem dX10_write_44 : decode cX10_write 44 = .ok (.iconst 0, 1) := by decide +kernel
theorem dX10_write_45 : decode cX10_write 45 = .ok (.putfield 399, 3) := by decide +kernel
theorem dX10_write_48 : decode cX10_write 48 = .ok (.aload_n 0, 1) := by decide +kernel
theorem dX10_write_49 : decode cX10_write 49 = .ok (.iconst 1, 1) := by decide +kernel
theorem dX10_write_50 : decode cX10_write 50 = .ok (.putfield 402, 3) := by decide +kernel
theorem dX10_write_53 : decode cX10_write 53 = .ok (.aload_n 0, 1) := by decide +kernel
theorem dX10_write_54 : decode cX10_write 54 = .ok (.iconst 0, 1) := by decide +kernel
theorem dX10_write_55 : decode cX10_write 55 = .ok (.iconst 0, 1) := by decide +kernel
theorem dX10_write_56 : decode cX10_write 56 = .ok (.invokevirtual 384, 3) := by decide +kernel
theorem dX10_write_12 : decode cX10_write 12 = .ok (.bipush (-2), 2) := by decide +kernel
theorem dX10_write_14 : decode cX10_write 14 = .ok (.ireturn, 1) := by decide +kernel
set_option maxHeartbeats 4000000 in
set_option maxRecDepth 100000 in
theorem m_write (l : Launch) (D : va_G) (tA : Nat → ClassId) (b : Nat) (i F : Nat → Nat → Int32) (G : Nat → Nat → Int64) (x : Int32) (hI : IMm i F) (hBR : BR i) : xMI l yX10_write cX10_write 5 (some .int) 4 91 D tA b 78 52 i F G [.ref (b + 78), .int x] (fun r u => IMm u.1 u.2.1 ∧ RO [11, 12, 13, 14, 15, 16, 17, 18, 19, 20, 21, 22, 23, 24, 25, 26, 27, 28, 29, 30, 31, 32, 33, 34, 35, 36, 37, 38, 39, 40, 41, 42, 43, 44, 45, 46, 47, 48, 49, 50, 51, 52, 53, 54, 55, 56, 57, 58, 59, 60, 61, 62, 63, 64, 65, 66, 67, 68, 69, 70, 71, 72, 73, 74, 75, 76, 77, 78] [85, 86, 87, 88, 89, 90, 91, 92, 93, 94, 95, 96, 97, 98, 99, 100, 101, 102, 103, 104, 105, 106, 107, 108, 109, 110, 111, 112, 113, 114, 115, 116, 117, 118, 119, 120, 121, 122, 123, 124, 125, 126, 127, 128, 129] i F G u) := by
  refine xstart RX10 rfl (by decide) (Nat.le_of_ble_eq_true rfl) ?_
  intro p e s m below meth c ls C0 hr hH hS hl
  have hl : lv_has ls 5 [(0, .ref (b + 78)), (1, .int x)] := hl
  have rg_x := fb_rng x
  have hIs := hI.s
  have hi_78_17 := hIs.src
  have hL := IMs.lin hIs
  have hTA := hIs.tk.2.1
  have L59 : ∀ (d : Nat) (nb ni np : Nat) (po pr ho : Nat → Nat) (V : Nat → Bool) (iv Fv : Nat → Nat → Int32) (Gv : Nat → Nat → Int64) (H : Heap) (locs : List Loc) (ls : Array Slot), (RO [56, 63, 64, 65] [115, 116, 117, 118, 119, 120, 121] i F G (iv, Fv, Gv)) → (PW nb ni np po pr ho V iv Fv) → (0 ≤ (iv 78 56).toInt ∧ (iv 78 56).toInt + 2 * (iv 78 63).toInt ≤ 150000 * (vcn V 6000 : Int) + 2) → (12000 - 2 * (vcn V 6000 : Int) + (iv 78 63).toInt ≤ d) → (WB (24 * (vcn V 6000 : Int)) iv Fv) → (1 ≤ x.toInt ∧ x.toInt ≤ 8) → Hd D tA b 78 52 zz iv Fv Gv H → va_S (xA b 78 52) s.heap H locs → lv_has ls 5 [(0, .ref (b + 78)), (1, .int x)] → W p l e (xR 4 91) s m ([.ref (b + 78), .int x] : List Value).toArray below meth c H locs 0 0 (MQ below (va_Qi (fun r u => IMm u.1 u.2.1 ∧ RO [11, 12, 13, 14, 15, 16, 17, 18, 19, 20, 21, 22, 23, 24, 25, 26, 27, 28, 29, 30, 31, 32, 33, 34, 35, 36, 37, 38, 39, 40, 41, 42, 43, 44, 45, 46, 47, 48, 49, 50, 51, 52, 53, 54, 55, 56, 57, 58, 59, 60, 61, 62, 63, 64, 65, 66, 67, 68, 69, 70, 71, 72, 73, 74, 75, 76, 77, 78] [85, 86, 87, 88, 89, 90, 91, 92, 93, 94, 95, 96, 97, 98, 99, 100, 101, 102, 103, 104, 105, 106, 107, 108, 109, 110, 111, 112, 113, 114, 115, 116, 117, 118, 119, 120, 121, 122, 123, 124, 125, 126, 127, 128, 129] i F G u) (xB D tA b 78 52 zz) (xA b 78 52)) ([.ref (b + 78), .int x] : List Value).toArray s 0 0 (xA b 78 52)) (F0 m 59 ls []) := by
    intro d
    induction d with
    | zero =>
      intro nb ni np po pr ho V iv Fv Gv H locs ls h1 h2 h3 h4 h5 h6 hH hS hl
      have hPW := h2
      have hV6 := vcn_le V 6000
      have hnb := hPW.1.1
      have hdp0 := hPW.2.2.1
      have ek54 : Int32.toInt (iv 78 54) = Int32.toInt (i 78 54) := congrArg Int32.toInt (h1.1 78 54 (Or.inr (by decide)))
      have hi_78_17 : iv 78 17 = nI 85 := (h1.1 78 17 (Or.inr (by decide))).trans hIs.src
      have hTA : TA (Fv 89) (Fv 90) := by rw [show Fv 89 = F 89 from (h1.2 89 (by decide)).1, show Fv 90 = F 90 from (h1.2 90 (by decide)).1]; exact hIs.tk.2.1
      have hL64 := h5.1
      refine lv_aload_n (pc := 59) C0.1 C0.2.1 dX10_write_59 rfl (lv_at hl 0 rfl) ?_
      refine xget (pc := 60) C0 hH 78 63 clX10 ⟨Nat.le_of_ble_eq_true rfl, Nat.le_of_ble_eq_true rfl⟩ ⟨rfl, rfl⟩ (Nat.le_of_ble_eq_true rfl) fl_X10_375 (v := .int (iv 78 63)) rfl dX10_write_60 ?_
      have : Int32.toInt 0 = 0 := rfl
      refine lv_if_le (pc := 63) (tgt := 240) C0.1 C0.2.1 dX10_write_63 (by decide) (fun _ => ?_) (fun c => absurd (Int32.le_iff_toInt_le.mpr (by omega)) c)
      refine lv_aload_n (pc := 240) C0.1 C0.2.1 dX10_write_240 rfl (lv_at hl 0 rfl) ?_
      refine xget (pc := 241) C0 hH 78 56 clX10 ⟨Nat.le_of_ble_eq_true rfl, Nat.le_of_ble_eq_true rfl⟩ ⟨rfl, rfl⟩ (Nat.le_of_ble_eq_true rfl) fl_X10_369 (v := .int (iv 78 56)) rfl dX10_write_241 ?_
      refine lv_if_le (pc := 244) (tgt := 253) C0.1 C0.2.1 dX10_write_244 (by decide) (fun c201 => ?_) (fun c201 => ?_)
      · have : Int32.toInt 0 = 0 := rfl
        have c201 := Int32.le_iff_toInt_le.mp c201
        refine lv_aload_n (pc := 253) C0.1 C0.2.1 dX10_write_253 rfl (lv_at hl 0 rfl) ?_
        refine xcVI (pc := 254) 78 [] (m_finish l D tA b iv Fv Gv (show 0 ≤ Int32.toInt (iv 78 56) from by omega) (show 0 ≤ Int32.toInt (iv 78 54) ∧ Int32.toInt (iv 78 54) ≤ 4000 from by omega)) C0 hH hS clX10 rfl ⟨⟨Nat.le_of_ble_eq_true rfl, Nat.le_of_ble_eq_true rfl⟩, rfl, rfl⟩ cw_X10_396 rfl ⟨Nat.le_of_ble_eq_true rfl, Nat.le_of_ble_eq_true rfl⟩ hl.1 rfl (Nat.le_of_ble_eq_true rfl) dX10_write_254 ⟨Nat.le_of_ble_eq_true rfl, Nat.le_of_ble_eq_true rfl⟩ (fun r202 ir202 Fr202 Gr202 _ locs hp hH hS => ?_)
        obtain ⟨honr202, hwr202⟩ := hp
        have hwr202 : 0 ≤ (ir202 78 54).toInt ∧ (ir202 78 54).toInt ≤ 4000 := hwr202
        have hi_78_17 : ir202 78 17 = nI 85 := (honr202.1 78 17 (Or.inr (by decide))).trans hi_78_17
        have ek_56r202 : Int32.toInt (ir202 78 56) = Int32.toInt (iv 78 56) := congrArg Int32.toInt (honr202.1 78 56 (Or.inr (by decide)))
        have ek_63r202 : Int32.toInt (ir202 78 63) = Int32.toInt (iv 78 63) := congrArg Int32.toInt (honr202.1 78 63 (Or.inr (by decide)))
        have ek_64r202 : Int32.toInt (ir202 78 64) = Int32.toInt (iv 78 64) := congrArg Int32.toInt (honr202.1 78 64 (Or.inr (by decide)))
        exact xiret (pc := 257) C0 hr hH hS dX10_write_257 ⟨IMs.m (IMs.wr hIs (show RO [54, 56, 63, 64, 65] [114, 115, 116, 117, 118, 119, 120, 121] i F G (ir202, Fr202, Gr202) from (RO.tr (RO.tr RO.rf h1 (by decide) (by decide)) honr202 (by decide) (by decide))) (by decide) (by decide) (by decide) hwr202), (RO.tr (RO.tr RO.rf h1 (by decide) (by decide)) honr202 (by decide) (by decide))⟩
      · have : Int32.toInt 0 = 0 := rfl
        have c201 : ¬ _ := fun q => c201 (Int32.le_iff_toInt_le.mpr q)
        refine lv_aload_n (pc := 247) C0.1 C0.2.1 dX10_write_247 rfl (lv_at hl 0 rfl) ?_
        refine lv_bipush (pc := 248) (v := 10) C0.1 C0.2.1 dX10_write_248 (by decide) ?_
        refine xcVV (pc := 250) 78 [.int 10] (m_put l D tA b iv Fv Gv 10 (show 0 ≤ Int32.toInt (iv 78 56) ∧ Int32.toInt (iv 78 56) ≤ 2000000000 from by omega) ) C0 hH hS clX10 rfl ⟨⟨Nat.le_of_ble_eq_true rfl, Nat.le_of_ble_eq_true rfl⟩, rfl, rfl⟩ cw_X10_372 rfl ⟨Nat.le_of_ble_eq_true rfl, Nat.le_of_ble_eq_true rfl⟩ hl.1 rfl (Nat.le_of_ble_eq_true rfl) dX10_write_250 ⟨Nat.le_of_ble_eq_true rfl, Nat.le_of_ble_eq_true rfl⟩ (fun ir203 Fr203 Gr203 _ locs hp hH hS => ?_)
        obtain ⟨honr203, hdsr203⟩ := hp
        have hdsr203 : Int32.toInt (iv 78 56) ≤ (ir203 78 56).toInt ∧ (ir203 78 56).toInt ≤ Int32.toInt (iv 78 56) + 1 := hdsr203
        have hPW : PW nb ni np po pr ho V ir203 Fr203 := PW.ro (i := iv) (F := Fv) hPW honr203 (by decide) (by decide)
        have hTA : TA (Fr203 89) (Fr203 90) := by rw [show Fr203 89 = Fv 89 from (honr203.2 89 (by decide)).1, show Fr203 90 = Fv 90 from (honr203.2 90 (by decide)).1]; exact hTA
        have hi_78_17 : ir203 78 17 = nI 85 := (honr203.1 78 17 (Or.inr (by decide))).trans hi_78_17
        have ek_54r203 : Int32.toInt (ir203 78 54) = Int32.toInt (iv 78 54) := congrArg Int32.toInt (honr203.1 78 54 (Or.inr (by decide)))
        have ek_63r203 : Int32.toInt (ir203 78 63) = Int32.toInt (iv 78 63) := congrArg Int32.toInt (honr203.1 78 63 (Or.inr (by decide)))
        have ek_64r203 : Int32.toInt (ir203 78 64) = Int32.toInt (iv 78 64) := congrArg Int32.toInt (honr203.1 78 64 (Or.inr (by decide)))
        refine lv_aload_n (pc := 253) C0.1 C0.2.1 dX10_write_253 rfl (lv_at hl 0 rfl) ?_
        refine xcVI (pc := 254) 78 [] (m_finish l D tA b ir203 Fr203 Gr203 (show 0 ≤ Int32.toInt (ir203 78 56) from by omega) (show 0 ≤ Int32.toInt (ir203 78 54) ∧ Int32.toInt (ir203 78 54) ≤ 4000 from by omega)) C0 hH hS clX10 rfl ⟨⟨Nat.le_of_ble_eq_true rfl, Nat.le_of_ble_eq_true rfl⟩, rfl, rfl⟩ cw_X10_396 rfl ⟨Nat.le_of_ble_eq_true rfl, Nat.le_of_ble_eq_true rfl⟩ hl.1 rfl (Nat.le_of_ble_eq_true rfl) dX10_write_254 ⟨Nat.le_of_ble_eq_true rfl, Nat.le_of_ble_eq_true rfl⟩ (fun r204 ir204 Fr204 Gr204 _ locs hp hH hS => ?_)
        obtain ⟨honr204, hwr204⟩ := hp
        have hwr204 : 0 ≤ (ir204 78 54).toInt ∧ (ir204 78 54).toInt ≤ 4000 := hwr204
        have hi_78_17 : ir204 78 17 = nI 85 := (honr204.1 78 17 (Or.inr (by decide))).trans hi_78_17
        have ek_56r204 : Int32.toInt (ir204 78 56) = Int32.toInt (ir203 78 56) := congrArg Int32.toInt (honr204.1 78 56 (Or.inr (by decide)))
        have ek_63r204 : Int32.toInt (ir204 78 63) = Int32.toInt (ir203 78 63) := congrArg Int32.toInt (honr204.1 78 63 (Or.inr (by decide)))
        have ek_64r204 : Int32.toInt (ir204 78 64) = Int32.toInt (ir203 78 64) := congrArg Int32.toInt (honr204.1 78 64 (Or.inr (by decide)))
        exact xiret (pc := 257) C0 hr hH hS dX10_write_257 ⟨IMs.m (IMs.wr hIs (show RO [54, 56, 63, 64, 65] [114, 115, 116, 117, 118, 119, 120, 121] i F G (ir204, Fr204, Gr204) from (RO.tr (RO.tr (RO.tr RO.rf h1 (by decide) (by decide)) honr203 (by decide) (by decide)) honr204 (by decide) (by decide))) (by decide) (by decide) (by decide) hwr204), (RO.tr (RO.tr (RO.tr RO.rf h1 (by decide) (by decide)) honr203 (by decide) (by decide)) honr204 (by decide) (by decide))⟩
    | succ d ih59 =>
      intro nb ni np po pr ho V iv Fv Gv H locs ls h1 h2 h3 h4 h5 h6 hH hS hl
      have hPW := h2
      have hV6 := vcn_le V 6000
      have hnb := hPW.1.1
      have hdp0 := hPW.2.2.1
      have ek54 : Int32.toInt (iv 78 54) = Int32.toInt (i 78 54) := congrArg Int32.toInt (h1.1 78 54 (Or.inr (by decide)))
      have hi_78_17 : iv 78 17 = nI 85 := (h1.1 78 17 (Or.inr (by decide))).trans hIs.src
      have hTA : TA (Fv 89) (Fv 90) := by rw [show Fv 89 = F 89 from (h1.2 89 (by decide)).1, show Fv 90 = F 90 from (h1.2 90 (by decide)).1]; exact hIs.tk.2.1
      have hL64 := h5.1
      refine lv_aload_n (pc := 59) C0.1 C0.2.1 dX10_write_59 rfl (lv_at hl 0 rfl) ?_
      refine xget (pc := 60) C0 hH 78 63 clX10 ⟨Nat.le_of_ble_eq_true rfl, Nat.le_of_ble_eq_true rfl⟩ ⟨rfl, rfl⟩ (Nat.le_of_ble_eq_true rfl) fl_X10_375 (v := .int (iv 78 63)) rfl dX10_write_60 ?_
      refine lv_if_le (pc := 63) (tgt := 240) C0.1 C0.2.1 dX10_write_63 (by decide) (fun c201 => ?_) (fun c201 => ?_)
      · have : Int32.toInt 0 = 0 := rfl
        have c201 := Int32.le_iff_toInt_le.mp c201
        refine lv_aload_n (pc := 240) C0.1 C0.2.1 dX10_write_240 rfl (lv_at hl 0 rfl) ?_
        refine xget (pc := 241) C0 hH 78 56 clX10 ⟨Nat.le_of_ble_eq_true rfl, Nat.le_of_ble_eq_true rfl⟩ ⟨rfl, rfl⟩ (Nat.le_of_ble_eq_true rfl) fl_X10_369 (v := .int (iv 78 56)) rfl dX10_write_241 ?_
        refine lv_if_le (pc := 244) (tgt := 253) C0.1 C0.2.1 dX10_write_244 (by decide) (fun c202 => ?_) (fun c202 => ?_)
        · have : Int32.toInt 0 = 0 := rfl
          have c202 := Int32.le_iff_toInt_le.mp c202
          refine lv_aload_n (pc := 253) C0.1 C0.2.1 dX10_write_253 rfl (lv_at hl 0 rfl) ?_
          refine xcVI (pc := 254) 78 [] (m_finish l D tA b iv Fv Gv (show 0 ≤ Int32.toInt (iv 78 56) from by omega) (show 0 ≤ Int32.toInt (iv 78 54) ∧ Int32.toInt (iv 78 54) ≤ 4000 from by omega)) C0 hH hS clX10 rfl ⟨⟨Nat.le_of_ble_eq_true rfl, Nat.le_of_ble_eq_true rfl⟩, rfl, rfl⟩ cw_X10_396 rfl ⟨Nat.le_of_ble_eq_true rfl, Nat.le_of_ble_eq_true rfl⟩ hl.1 rfl (Nat.le_of_ble_eq_true rfl) dX10_write_254 ⟨Nat.le_of_ble_eq_true rfl, Nat.le_of_ble_eq_true rfl⟩ (fun r203 ir203 Fr203 Gr203 _ locs hp hH hS => ?_)
          obtain ⟨honr203, hwr203⟩ := hp
          have hwr203 : 0 ≤ (ir203 78 54).toInt ∧ (ir203 78 54).toInt ≤ 4000 := hwr203
          have hi_78_17 : ir203 78 17 = nI 85 := (honr203.1 78 17 (Or.inr (by decide))).trans hi_78_17
          have ek_56r203 : Int32.toInt (ir203 78 56) = Int32.toInt (iv 78 56) := congrArg Int32.toInt (honr203.1 78 56 (Or.inr (by decide)))
          have ek_63r203 : Int32.toInt (ir203 78 63) = Int32.toInt (iv 78 63) := congrArg Int32.toInt (honr203.1 78 63 (Or.inr (by decide)))
          have ek_64r203 : Int32.toInt (ir203 78 64) = Int32.toInt (iv 78 64) := congrArg Int32.toInt (honr203.1 78 64 (Or.inr (by decide)))
          exact xiret (pc := 257) C0 hr hH hS dX10_write_257 ⟨IMs.m (IMs.wr hIs (show RO [54, 56, 63, 64, 65] [114, 115, 116, 117, 118, 119, 120, 121] i F G (ir203, Fr203, Gr203) from (RO.tr (RO.tr RO.rf h1 (by decide) (by decide)) honr203 (by decide) (by decide))) (by decide) (by decide) (by decide) hwr203), (RO.tr (RO.tr RO.rf h1 (by decide) (by decide)) honr203 (by decide) (by decide))⟩
        · have : Int32.toInt 0 = 0 := rfl
          have c202 : ¬ _ := fun q => c202 (Int32.le_iff_toInt_le.mpr q)
          refine lv_aload_n (pc := 247) C0.1 C0.2.1 dX10_write_247 rfl (lv_at hl 0 rfl) ?_
          refine lv_bipush (pc := 248) (v := 10) C0.1 C0.2.1 dX10_write_248 (by decide) ?_
          refine xcVV (pc := 250) 78 [.int 10] (m_put l D tA b iv Fv Gv 10 (show 0 ≤ Int32.toInt (iv 78 56) ∧ Int32.toInt (iv 78 56) ≤ 2000000000 from by omega) ) C0 hH hS clX10 rfl ⟨⟨Nat.le_of_ble_eq_true rfl, Nat.le_of_ble_eq_true rfl⟩, rfl, rfl⟩ cw_X10_372 rfl ⟨Nat.le_of_ble_eq_true rfl, Nat.le_of_ble_eq_true rfl⟩ hl.1 rfl (Nat.le_of_ble_eq_true rfl) dX10_write_250 ⟨Nat.le_of_ble_eq_true rfl, Nat.le_of_ble_eq_true rfl⟩ (fun ir204 Fr204 Gr204 _ locs hp hH hS => ?_)
          obtain ⟨honr204, hdsr204⟩ := hp
          have hdsr204 : Int32.toInt (iv 78 56) ≤ (ir204 78 56).toInt ∧ (ir204 78 56).toInt ≤ Int32.toInt (iv 78 56) + 1 := hdsr204
          have hPW : PW nb ni np po pr ho V ir204 Fr204 := PW.ro (i := iv) (F := Fv) hPW honr204 (by decide) (by decide)
          have hTA : TA (Fr204 89) (Fr204 90) := by rw [show Fr204 89 = Fv 89 from (honr204.2 89 (by decide)).1, show Fr204 90 = Fv 90 from (honr204.2 90 (by decide)).1]; exact hTA
          have hi_78_17 : ir204 78 17 = nI 85 := (honr204.1 78 17 (Or.inr (by decide))).trans hi_78_17
          have ek_54r204 : Int32.toInt (ir204 78 54) = Int32.toInt (iv 78 54) := congrArg Int32.toInt (honr204.1 78 54 (Or.inr (by decide)))
          have ek_63r204 : Int32.toInt (ir204 78 63) = Int32.toInt (iv 78 63) := congrArg Int32.toInt (honr204.1 78 63 (Or.inr (by decide)))
          have ek_64r204 : Int32.toInt (ir204 78 64) = Int32.toInt (iv 78 64) := congrArg Int32.toInt (honr204.1 78 64 (Or.inr (by decide)))
          refine lv_aload_n (pc := 253) C0.1 C0.2.1 dX10_write_253 rfl (lv_at hl 0 rfl) ?_
          refine xcVI (pc := 254) 78 [] (m_finish l D tA b ir204 Fr204 Gr204 (show 0 ≤ Int32.toInt (ir204 78 56) from by omega) (show 0 ≤ Int32.toInt (ir204 78 54) ∧ Int32.toInt (ir204 78 54) ≤ 4000 from by omega)) C0 hH hS clX10 rfl ⟨⟨Nat.le_of_ble_eq_true rfl, Nat.le_of_ble_eq_true rfl⟩, rfl, rfl⟩ cw_X10_396 rfl ⟨Nat.le_of_ble_eq_true rfl, Nat.le_of_ble_eq_true rfl⟩ hl.1 rfl (Nat.le_of_ble_eq_true rfl) dX10_write_254 ⟨Nat.le_of_ble_eq_true rfl, Nat.le_of_ble_eq_true rfl⟩ (fun r205 ir205 Fr205 Gr205 _ locs hp hH hS => ?_)
          obtain ⟨honr205, hwr205⟩ := hp
          have hwr205 : 0 ≤ (ir205 78 54).toInt ∧ (ir205 78 54).toInt ≤ 4000 := hwr205
          have hi_78_17 : ir205 78 17 = nI 85 := (honr205.1 78 17 (Or.inr (by decide))).trans hi_78_17
          have ek_56r205 : Int32.toInt (ir205 78 56) = Int32.toInt (ir204 78 56) := congrArg Int32.toInt (honr205.1 78 56 (Or.inr (by decide)))
          have ek_63r205 : Int32.toInt (ir205 78 63) = Int32.toInt (ir204 78 63) := congrArg Int32.toInt (honr205.1 78 63 (Or.inr (by decide)))
          have ek_64r205 : Int32.toInt (ir205 78 64) = Int32.toInt (ir204 78 64) := congrArg Int32.toInt (honr205.1 78 64 (Or.inr (by decide)))
          exact xiret (pc := 257) C0 hr hH hS dX10_write_257 ⟨IMs.m (IMs.wr hIs (show RO [54, 56, 63, 64, 65] [114, 115, 116, 117, 118, 119, 120, 121] i F G (ir205, Fr205, Gr205) from (RO.tr (RO.tr (RO.tr RO.rf h1 (by decide) (by decide)) honr204 (by decide) (by decide)) honr205 (by decide) (by decide))) (by decide) (by decide) (by decide) hwr205), (RO.tr (RO.tr (RO.tr RO.rf h1 (by decide) (by decide)) honr204 (by decide) (by decide)) honr205 (by decide) (by decide))⟩
      · have : Int32.toInt 0 = 0 := rfl
        have c201 : ¬ _ := fun q => c201 (Int32.le_iff_toInt_le.mpr q)
        refine lv_aload_n (pc := 66) C0.1 C0.2.1 dX10_write_66 rfl (lv_at hl 0 rfl) ?_
        refine xget (pc := 67) C0 hH 78 63 clX10 ⟨Nat.le_of_ble_eq_true rfl, Nat.le_of_ble_eq_true rfl⟩ ⟨rfl, rfl⟩ (Nat.le_of_ble_eq_true rfl) fl_X10_375 (v := .int (iv 78 63)) rfl dX10_write_67 ?_
        refine lv_iconst (pc := 70) (v := 1) C0.1 C0.2.1 dX10_write_70 (by decide) ?_
        have : Int32.toInt 1 = 1 := rfl
        refine lv_isub (pc := 71) C0.1 C0.2.1 dX10_write_71 ?_
        refine lv_topi (fun x206 ex206 => ?_)
        have hx206 : Int32.toInt x206 = Int32.toInt (iv 78 63) - Int32.toInt 1 := by rw [ex206]; exact fb_subI (by omega) (by omega)
        refine lv_istore_n (pc := 72) (lv' := [(2, .int x206), (0, .ref (b + 78)), (1, .int x)]) C0.1 C0.2.1 dX10_write_72 rfl hl (by decide) rfl (fun ls hl => ?_)
        have hcd := clI (x := x206) (by omega)
        have hDD : (((Int32.toNatClampNeg x206) : Nat) : Int) + 1 = (iv 78 63).toInt := (by omega)
        have hfr := (hPW.2.2.2.1 (Int32.toNatClampNeg x206) (by omega)).1
        have hwd := h5.2 (Int32.toNatClampNeg x206) (by omega)
        have hwd1 := hwd.1
        refine lv_aload_n (pc := 73) C0.1 C0.2.1 dX10_write_73 rfl (lv_at hl 1 rfl) ?_
        refine xget (pc := 74) C0 hH 78 58 clX10 ⟨Nat.le_of_ble_eq_true rfl, Nat.le_of_ble_eq_true rfl⟩ ⟨rfl, rfl⟩ (Nat.le_of_ble_eq_true rfl) fl_X10_130 (v := .ref (b + 117)) rfl dX10_write_74 ?_
        refine lv_iload_n (pc := 77) C0.1 C0.2.1 dX10_write_77 rfl (lv_at hl 0 rfl) ?_
        refine xiald (pc := 78) (N := 1202) C0 hH 117 ⟨Nat.le_of_ble_eq_true rfl, Nat.le_of_ble_eq_true rfl⟩ ⟨rfl, rfl⟩ (vI (by omega) (by omega)) dX10_write_78 ?_
        refine lv_topi (fun x207 ex207 => ?_)
        refine lv_istore_n (pc := 79) (lv' := [(3, .int x207), (2, .int x206), (0, .ref (b + 78)), (1, .int x)]) C0.1 C0.2.1 dX10_write_79 rfl hl (by decide) rfl (fun ls hl => ?_)
        have hIx207 := congrArg Int32.toInt ex207
        refine lv_iload_n (pc := 80) C0.1 C0.2.1 dX10_write_80 rfl (lv_at hl 0 rfl) ?_
        refine lv_bipush (pc := 81) (v := (-9)) C0.1 C0.2.1 dX10_write_81 (by decide) ?_
        refine lv_icmp_ne (pc := 83) (tgt := 99) C0.1 C0.2.1 dX10_write_83 (by decide) (fun c208 => ?_) (fun c208 => ?_)
        · have : Int32.toInt (-9) = (-9) := rfl
          have c208 : ¬ _ := fun q => c208 (Int32.toInt_inj.mp q)
          have hxn : ¬ (Fv 117 (Int32.toNatClampNeg x206)).toInt = -9 := (by have : Int32.toInt (-9) = -9 := rfl; omega)
          have hO := hPW.top hDD hxn
          have hOx := hO.1
          refine lv_aload_n (pc := 99) C0.1 C0.2.1 dX10_write_99 rfl (lv_at hl 2 rfl) ?_
          refine xget (pc := 100) C0 hH 78 59 clX10 ⟨Nat.le_of_ble_eq_true rfl, Nat.le_of_ble_eq_true rfl⟩ ⟨rfl, rfl⟩ (Nat.le_of_ble_eq_true rfl) fl_X10_133 (v := .ref (b + 118)) rfl dX10_write_100 ?_
          refine lv_iload_n (pc := 103) C0.1 C0.2.1 dX10_write_103 rfl (lv_at hl 1 rfl) ?_
          refine xiald (pc := 104) (N := 1202) C0 hH 118 ⟨Nat.le_of_ble_eq_true rfl, Nat.le_of_ble_eq_true rfl⟩ ⟨rfl, rfl⟩ (vI (by omega) (by omega)) dX10_write_104 ?_
          refine lv_iconst (pc := 105) (v := (-1)) C0.1 C0.2.1 dX10_write_105 (by decide) ?_
          refine lv_icmp_ne (pc := 106) (tgt := 166) C0.1 C0.2.1 dX10_write_106 (by decide) (fun c209 => ?_) (fun c209 => ?_)
          · have : Int32.toInt (-1) = (-1) := rfl
            have c209 : ¬ _ := fun q => c209 (Int32.toInt_inj.mp q)
            refine lv_aload_n (pc := 166) C0.1 C0.2.1 dX10_write_166 rfl (lv_at hl 2 rfl) ?_
            refine xget (pc := 167) C0 hH 78 59 clX10 ⟨Nat.le_of_ble_eq_true rfl, Nat.le_of_ble_eq_true rfl⟩ ⟨rfl, rfl⟩ (Nat.le_of_ble_eq_true rfl) fl_X10_133 (v := .ref (b + 118)) rfl dX10_write_167 ?_
            refine lv_iload_n (pc := 170) C0.1 C0.2.1 dX10_write_170 rfl (lv_at hl 1 rfl) ?_
            refine xiald (pc := 171) (N := 1202) C0 hH 118 ⟨Nat.le_of_ble_eq_true rfl, Nat.le_of_ble_eq_true rfl⟩ ⟨rfl, rfl⟩ (vI (by omega) (by omega)) dX10_write_171 ?_
            refine lv_bipush (pc := 172) (v := (-9)) C0.1 C0.2.1 dX10_write_172 (by decide) ?_
            refine lv_icmp_ne (pc := 174) (tgt := 199) C0.1 C0.2.1 dX10_write_174 (by decide) (fun c210 => ?_) (fun c210 => ?_)
            · have : Int32.toInt (-9) = (-9) := rfl
              have c210 : ¬ _ := fun q => c210 (Int32.toInt_inj.mp q)
              have hp1n : ¬ (Fv 118 (Int32.toNatClampNeg x206)).toInt = -1 := (by have : Int32.toInt (-1) = -1 := rfl; omega)
              have hp9n : ¬ (Fv 118 (Int32.toNatClampNeg x206)).toInt = -9 := (by have : Int32.toInt (-9) = -9 := rfl; omega)
              have hP0 : 0 ≤ (Fv 118 (Int32.toNatClampNeg x206)).toInt ∧ (Fv 118 (Int32.toNatClampNeg x206)).toInt < np := by rcases hO.2.2.2 with q | ⟨-, q | q⟩; exact absurd q hp1n; exact absurd q hp9n; exact q.1
              refine lv_aload_n (pc := 199) C0.1 C0.2.1 dX10_write_199 rfl (lv_at hl 2 rfl) ?_
              refine xget (pc := 200) C0 hH 78 48 clX10 ⟨Nat.le_of_ble_eq_true rfl, Nat.le_of_ble_eq_true rfl⟩ ⟨rfl, rfl⟩ (Nat.le_of_ble_eq_true rfl) fl_X10_112 (v := .ref (b + 111)) rfl dX10_write_200 ?_
              refine lv_aload_n (pc := 203) C0.1 C0.2.1 dX10_write_203 rfl (lv_at hl 2 rfl) ?_
              refine xget (pc := 204) C0 hH 78 59 clX10 ⟨Nat.le_of_ble_eq_true rfl, Nat.le_of_ble_eq_true rfl⟩ ⟨rfl, rfl⟩ (Nat.le_of_ble_eq_true rfl) fl_X10_133 (v := .ref (b + 118)) rfl dX10_write_204 ?_
              refine lv_iload_n (pc := 207) C0.1 C0.2.1 dX10_write_207 rfl (lv_at hl 1 rfl) ?_
              refine xiald (pc := 208) (N := 1202) C0 hH 118 ⟨Nat.le_of_ble_eq_true rfl, Nat.le_of_ble_eq_true rfl⟩ ⟨rfl, rfl⟩ (vI (by omega) (by omega)) dX10_write_208 ?_
              refine xiald (pc := 209) (N := 1802) C0 hH 111 ⟨Nat.le_of_ble_eq_true rfl, Nat.le_of_ble_eq_true rfl⟩ ⟨rfl, rfl⟩ (vI (by omega) (by omega)) dX10_write_209 ?_
              refine lv_topi (fun x211 ex211 => ?_)
              refine lv_istore (pc := 210) (lv' := [(4, .int x211), (3, .int x207), (2, .int x206), (0, .ref (b + 78)), (1, .int x)]) C0.1 C0.2.1 dX10_write_210 hl (by decide) rfl (fun ls hl => ?_)
              refine lv_aload_n (pc := 212) C0.1 C0.2.1 dX10_write_212 rfl (lv_at hl 3 rfl) ?_
              refine xget (pc := 213) C0 hH 78 59 clX10 ⟨Nat.le_of_ble_eq_true rfl, Nat.le_of_ble_eq_true rfl⟩ ⟨rfl, rfl⟩ (Nat.le_of_ble_eq_true rfl) fl_X10_133 (v := .ref (b + 118)) rfl dX10_write_213 ?_
              refine lv_iload_n (pc := 216) C0.1 C0.2.1 dX10_write_216 rfl (lv_at hl 2 rfl) ?_
              refine lv_aload_n (pc := 217) C0.1 C0.2.1 dX10_write_217 rfl (lv_at hl 3 rfl) ?_
              refine xget (pc := 218) C0 hH 78 49 clX10 ⟨Nat.le_of_ble_eq_true rfl, Nat.le_of_ble_eq_true rfl⟩ ⟨rfl, rfl⟩ (Nat.le_of_ble_eq_true rfl) fl_X10_115 (v := .ref (b + 112)) rfl dX10_write_218 ?_
              refine lv_aload_n (pc := 221) C0.1 C0.2.1 dX10_write_221 rfl (lv_at hl 3 rfl) ?_
              refine xget (pc := 222) C0 hH 78 59 clX10 ⟨Nat.le_of_ble_eq_true rfl, Nat.le_of_ble_eq_true rfl⟩ ⟨rfl, rfl⟩ (Nat.le_of_ble_eq_true rfl) fl_X10_133 (v := .ref (b + 118)) rfl dX10_write_222 ?_
              refine lv_iload_n (pc := 225) C0.1 C0.2.1 dX10_write_225 rfl (lv_at hl 2 rfl) ?_
              refine xiald (pc := 226) (N := 1202) C0 hH 118 ⟨Nat.le_of_ble_eq_true rfl, Nat.le_of_ble_eq_true rfl⟩ ⟨rfl, rfl⟩ (vI (by omega) (by omega)) dX10_write_226 ?_
              refine xiald (pc := 227) (N := 1802) C0 hH 112 ⟨Nat.le_of_ble_eq_true rfl, Nat.le_of_ble_eq_true rfl⟩ ⟨rfl, rfl⟩ (vI (by omega) (by omega)) dX10_write_227 ?_
              refine xiast (pc := 228) (N := 1202) C0 (Nat.le_of_ble_eq_true rfl) hH hS 118 ⟨Nat.le_of_ble_eq_true rfl, Nat.le_of_ble_eq_true rfl⟩ ⟨rfl, rfl⟩ (vI (by omega) (by omega)) dX10_write_228 (fun _ locs hH hS _ => ?_)
              have hH : Hd D tA b 78 52 zz iv (va_up Fv 118 (upd (Fv 118) (Int32.toNatClampNeg x206) (Fv 112 (Int32.toNatClampNeg (Fv 118 (Int32.toNatClampNeg x206)))))) Gv _ := hH
              obtain ⟨hVn, hlt, hPW, hvv⟩ := PW.s4 (i := iv) (F := Fv) (i2 := iv) (F2 := (va_up Fv 118 (upd (Fv 118) (Int32.toNatClampNeg x206) (Fv 112 (Int32.toNatClampNeg (Fv 118 (Int32.toNatClampNeg x206))))))) hPW hDD hxn hp1n hp9n rfl (fun k a1 a2 => va_up_ne _ _ (by omega)) rfl rfl rfl ex211
              have hcn := vcn_mk (N := 6000) hVn (by omega)
              have hgl := hwd.2.resolve_left hp1n
              refine lv_aload_n (pc := 229) C0.1 C0.2.1 dX10_write_229 rfl (lv_at hl 3 rfl) ?_
              refine lv_iload_n (pc := 230) C0.1 C0.2.1 dX10_write_230 rfl (lv_at hl 2 rfl) ?_
              refine lv_iload (pc := 231) C0.1 C0.2.1 dX10_write_231 (lv_at hl 0 rfl) ?_
              refine lv_iload_n (pc := 233) C0.1 C0.2.1 dX10_write_233 rfl (lv_at hl 4 rfl) ?_
              refine xcVV (pc := 234) 78 [.int x206, .int x211, .int x] (m_writePart l D tA b iv (va_up Fv 118 (upd (Fv 118) (Int32.toNatClampNeg x206) (Fv 112 (Int32.toNatClampNeg (Fv 118 (Int32.toNatClampNeg x206)))))) Gv x206 x211 x (by omega) (show 0 ≤ (Fv 116 (Int32.toNatClampNeg x206)).toInt ∧ (Fv 116 (Int32.toNatClampNeg x206)).toInt < 1202 from by omega) (show 0 ≤ (Fv 120 (Int32.toNatClampNeg x206)).toInt ∧ (Fv 120 (Int32.toNatClampNeg x206)).toInt ≤ 150000 from by omega) (by omega) (show 0 ≤ Int32.toInt (iv 78 56) ∧ Int32.toInt (iv 78 56) ≤ 1000000000 from by omega) (show 0 ≤ Int32.toInt (iv 78 64) ∧ Int32.toInt (iv 78 64) ≤ 150000 from by omega) hTA hi_78_17 (show (0 ≤ Int32.toInt x211 ∧ Int32.toInt x211 < 600) ∨ (Int32.toInt x211 ≤ -101 ∧ -100 - Int32.toInt x211 < 1202 ∧ 0 ≤ Int32.toInt (iv 78 63) ∧ Int32.toInt (iv 78 63) ≤ -100 - Int32.toInt x211) from hvv.imp id (fun q => ⟨q.1, by have := q.2.1; omega, by omega, q.2.2.1⟩))) C0 hH hS clX10 rfl ⟨⟨Nat.le_of_ble_eq_true rfl, Nat.le_of_ble_eq_true rfl⟩, rfl, rfl⟩ cw_X10_415 rfl ⟨Nat.le_of_ble_eq_true rfl, Nat.le_of_ble_eq_true rfl⟩ hl.1 rfl (Nat.le_of_ble_eq_true rfl) dX10_write_234 ⟨Nat.le_of_ble_eq_true rfl, Nat.le_of_ble_eq_true rfl⟩ (fun ir212 Fr212 Gr212 _ locs hp hH hS => ?_)
              obtain ⟨honr212, hwpr212⟩ := hp
              have hi_78_17 : ir212 78 17 = nI 85 := (honr212.1 78 17 (Or.inr (by decide))).trans hi_78_17
              have ek_54r212 : Int32.toInt (ir212 78 54) = Int32.toInt (iv 78 54) := congrArg Int32.toInt (honr212.1 78 54 (Or.inr (by decide)))
              rcases hwpr212 with ⟨hv0, ho1, hd1, hl1, hl2⟩ | ⟨hv0, ho1, hdp1, xc, xt, hxc, hxt, k116, k117, k118, k119⟩
              · have hd1 : Int32.toInt (iv 78 56) ≤ (ir212 78 56).toInt ∧ (ir212 78 56).toInt ≤ Int32.toInt (iv 78 56) + (Fv 120 (Int32.toNatClampNeg x206)).toInt + 620 := hd1
                have hl1 : 0 ≤ (ir212 78 64).toInt := hl1
                have hl2 : (ir212 78 64).toInt ≤ Int32.toInt (iv 78 64) ∨ (ir212 78 64).toInt ≤ (Fv 120 (Int32.toNatClampNeg x206)).toInt + 8 := hl2
                have e63 : ir212 78 63 = iv 78 63 := ho1.1 78 63 (Or.inr (by decide))
                have e63I := congrArg Int32.toInt e63
                have hPW : PW nb ni np po pr ho (vmk V (cl (Fv 118 (Int32.toNatClampNeg x206)))) ir212 Fr212 := PW.ro (i := iv) (F := (va_up Fv 118 (upd (Fv 118) (Int32.toNatClampNeg x206) (Fv 112 (Int32.toNatClampNeg (Fv 118 (Int32.toNatClampNeg x206))))))) hPW ho1 (by decide) (by decide)
                have hWB2 : WB (24 * (vcn (vmk V (cl (Fv 118 (Int32.toNatClampNeg x206)))) 6000 : Int)) ir212 Fr212 := WB.st4 (D := (Int32.toNatClampNeg x206)) (v := Fv 112 (Int32.toNatClampNeg (Fv 118 (Int32.toNatClampNeg x206)))) h5 (by have : vcn (vmk V (cl (Fv 118 (Int32.toNatClampNeg x206)))) 6000 = vcn V 6000 + 1 := hcn; omega) (show 0 ≤ (ir212 78 64).toInt ∧ (ir212 78 64).toInt ≤ _ from by have : vcn (vmk V (cl (Fv 118 (Int32.toNatClampNeg x206)))) 6000 = vcn V 6000 + 1 := hcn; omega) e63 hp1n (ho1.2 118 (by decide)).1 (ho1.2 119 (by decide)).1 (ho1.2 120 (by decide)).1
                refine lv_goto (pc := 237) (tgt := 59) C0.1 C0.2.1 dX10_write_237 (by decide) ?_
                exact ih59 nb ni np po pr ho (vmk V (cl (Fv 118 (Int32.toNatClampNeg x206)))) ir212 Fr212 Gr212 _ _ _ (RO.tr (RO.f (RO.tr RO.rf h1 (by decide) (by decide)) (by decide)) honr212 (by decide) (by decide)) hPW (show 0 ≤ Int32.toInt (ir212 78 56) ∧ Int32.toInt (ir212 78 56) + 2 * Int32.toInt (ir212 78 63) ≤ 150000 * (vcn (vmk V (cl (Fv 118 (Int32.toNatClampNeg x206)))) 6000 : Int) + 2 from by have : vcn (vmk V (cl (Fv 118 (Int32.toNatClampNeg x206)))) 6000 = vcn V 6000 + 1 := hcn; omega) (show 12000 - 2 * (vcn (vmk V (cl (Fv 118 (Int32.toNatClampNeg x206)))) 6000 : Int) + Int32.toInt (ir212 78 63) ≤ _ from by have : vcn (vmk V (cl (Fv 118 (Int32.toNatClampNeg x206)))) 6000 = vcn V 6000 + 1 := hcn; omega) hWB2 h6 hH hS (lv_sub hl [3, 4] rfl)
              · obtain ⟨hb1, hb2, hb3, hb4, hb5, hb6⟩ := hvv.resolve_left (fun q => by have := q.1; omega)
                have hdp1 : (ir212 78 63).toInt = (iv 78 63).toInt + 1 := hdp1
                have hxt : xt.toInt = (iv 78 64).toInt + 2 * x.toInt := hxt
                have e56 : Int32.toInt (ir212 78 56) = Int32.toInt (iv 78 56) := congrArg Int32.toInt (ho1.1 78 56 (Or.inr (by decide)))
                have hPW : PW nb ni np po pr ho (vmk V (cl (Fv 118 (Int32.toNatClampNeg x206)))) ir212 Fr212 := PW.s5 (i := iv) (F := (va_up Fv 118 (upd (Fv 118) (Int32.toNatClampNeg x206) (Fv 112 (Int32.toNatClampNeg (Fv 118 (Int32.toNatClampNeg x206))))))) (cI := -100 - Int32.toInt x211) hPW hxc ⟨hb3, hb2⟩ hb4 hb5 rfl hb6 hdp1 (fun k a1 a2 => (ho1.2 k (fun q => by simp only [List.mem_cons, List.not_mem_nil, or_false] at q; omega)).1) k116 k117 k118
                have hWB2 : WB (24 * (vcn (vmk V (cl (Fv 118 (Int32.toNatClampNeg x206)))) 6000 : Int)) ir212 Fr212 := WB.st5 (i := iv) (F := Fv) (D := (Int32.toNatClampNeg x206)) (v := Fv 112 (Int32.toNatClampNeg (Fv 118 (Int32.toNatClampNeg x206)))) h5 (by have : vcn (vmk V (cl (Fv 118 (Int32.toNatClampNeg x206)))) 6000 = vcn V 6000 + 1 := hcn; omega) (ho1.1 78 64 (Or.inr (by decide))) hdp1 (by omega) hp1n (show 0 ≤ xt.toInt ∧ xt.toInt ≤ _ from by have : vcn (vmk V (cl (Fv 118 (Int32.toNatClampNeg x206)))) 6000 = vcn V 6000 + 1 := hcn; omega) k118 k119 (ho1.2 120 (by decide)).1
                refine lv_goto (pc := 237) (tgt := 59) C0.1 C0.2.1 dX10_write_237 (by decide) ?_
                exact ih59 nb ni np po pr ho (vmk V (cl (Fv 118 (Int32.toNatClampNeg x206)))) ir212 Fr212 Gr212 _ _ _ (RO.tr (RO.f (RO.tr RO.rf h1 (by decide) (by decide)) (by decide)) honr212 (by decide) (by decide)) hPW (show 0 ≤ Int32.toInt (ir212 78 56) ∧ Int32.toInt (ir212 78 56) + 2 * Int32.toInt (ir212 78 63) ≤ 150000 * (vcn (vmk V (cl (Fv 118 (Int32.toNatClampNeg x206)))) 6000 : Int) + 2 from by have : vcn (vmk V (cl (Fv 118 (Int32.toNatClampNeg x206)))) 6000 = vcn V 6000 + 1 := hcn; omega) (show 12000 - 2 * (vcn (vmk V (cl (Fv 118 (Int32.toNatClampNeg x206)))) 6000 : Int) + Int32.toInt (ir212 78 63) ≤ _ from by have : vcn (vmk V (cl (Fv 118 (Int32.toNatClampNeg x206)))) 6000 = vcn V 6000 + 1 := hcn; omega) hWB2 h6 hH hS (lv_sub hl [3, 4] rfl)
            · have : Int32.toInt (-9) = (-9) := rfl
              have c210 := congrArg Int32.toInt c210
              refine lv_aload_n (pc := 177) C0.1 C0.2.1 dX10_write_177 rfl (lv_at hl 2 rfl) ?_
              refine xget (pc := 178) C0 hH 78 58 clX10 ⟨Nat.le_of_ble_eq_true rfl, Nat.le_of_ble_eq_true rfl⟩ ⟨rfl, rfl⟩ (Nat.le_of_ble_eq_true rfl) fl_X10_130 (v := .ref (b + 117)) rfl dX10_write_178 ?_
              refine lv_iload_n (pc := 181) C0.1 C0.2.1 dX10_write_181 rfl (lv_at hl 1 rfl) ?_
              refine lv_aload_n (pc := 182) C0.1 C0.2.1 dX10_write_182 rfl (lv_at hl 2 rfl) ?_
              refine xget (pc := 183) C0 hH 78 43 clX10 ⟨Nat.le_of_ble_eq_true rfl, Nat.le_of_ble_eq_true rfl⟩ ⟨rfl, rfl⟩ (Nat.le_of_ble_eq_true rfl) fl_X10_100 (v := .ref (b + 107)) rfl dX10_write_183 ?_
              refine lv_iload_n (pc := 186) C0.1 C0.2.1 dX10_write_186 rfl (lv_at hl 0 rfl) ?_
              refine xiald (pc := 187) (N := 1202) C0 hH 107 ⟨Nat.le_of_ble_eq_true rfl, Nat.le_of_ble_eq_true rfl⟩ ⟨rfl, rfl⟩ (vI (by omega) (by omega)) dX10_write_187 ?_
              refine xiast (pc := 188) (N := 1202) C0 (Nat.le_of_ble_eq_true rfl) hH hS 117 ⟨Nat.le_of_ble_eq_true rfl, Nat.le_of_ble_eq_true rfl⟩ ⟨rfl, rfl⟩ (vI (by omega) (by omega)) dX10_write_188 (fun _ locs hH hS _ => ?_)
              have hH : Hd D tA b 78 52 zz iv (va_up Fv 117 (upd (Fv 117) (Int32.toNatClampNeg x206) (Fv 107 (Int32.toNatClampNeg x207)))) Gv _ := hH
              refine lv_aload_n (pc := 189) C0.1 C0.2.1 dX10_write_189 rfl (lv_at hl 2 rfl) ?_
              refine xget (pc := 190) C0 hH 78 59 clX10 ⟨Nat.le_of_ble_eq_true rfl, Nat.le_of_ble_eq_true rfl⟩ ⟨rfl, rfl⟩ (Nat.le_of_ble_eq_true rfl) fl_X10_133 (v := .ref (b + 118)) rfl dX10_write_190 ?_
              refine lv_iload_n (pc := 193) C0.1 C0.2.1 dX10_write_193 rfl (lv_at hl 1 rfl) ?_
              refine lv_iconst (pc := 194) (v := (-1)) C0.1 C0.2.1 dX10_write_194 (by decide) ?_
              refine xiast (pc := 195) (N := 1202) C0 (Nat.le_of_ble_eq_true rfl) hH hS 118 ⟨Nat.le_of_ble_eq_true rfl, Nat.le_of_ble_eq_true rfl⟩ ⟨rfl, rfl⟩ (vI (by omega) (by omega)) dX10_write_195 (fun _ locs hH hS _ => ?_)
              have hH : Hd D tA b 78 52 zz iv (va_up (va_up Fv 117 (upd (Fv 117) (Int32.toNatClampNeg x206) (Fv 107 (Int32.toNatClampNeg x207)))) 118 (upd (Fv 118) (Int32.toNatClampNeg x206) (-1))) Gv _ := hH
              have hp9 : (Fv 118 (Int32.toNatClampNeg x206)).toInt = -9 := (by have : Int32.toInt (-9) = -9 := rfl; omega)
              obtain ⟨hVn, hlt, hPW⟩ := PW.s3 (i := iv) (F := Fv) (i2 := iv) (F2 := (va_up (va_up Fv 117 (upd (Fv 117) (Int32.toNatClampNeg x206) (Fv 107 (Int32.toNatClampNeg x207)))) 118 (upd (Fv 118) (Int32.toNatClampNeg x206) (-1)))) hPW hDD hxn hp9 rfl (fun k a1 a2 => (va_up_ne _ _ (by omega)).trans (va_up_ne _ _ (by omega))) rfl (congrArg (fun z => upd (Fv 117) (Int32.toNatClampNeg x206) (Fv 107 (cl z))) ex207) rfl
              have hcn := vcn_mk (N := 6000) hVn (by omega)
              have hWB2 : WB (24 * (vcn (vmk V (4000 + cl (Fv 117 (Int32.toNatClampNeg x206)))) 6000 : Int)) iv (va_up (va_up Fv 117 (upd (Fv 117) (Int32.toNatClampNeg x206) (Fv 107 (Int32.toNatClampNeg x207)))) 118 (upd (Fv 118) (Int32.toNatClampNeg x206) (-1))) := WB.st3 (D := (Int32.toNatClampNeg x206)) h5 (by have : vcn (vmk V (4000 + cl (Fv 117 (Int32.toNatClampNeg x206)))) 6000 = vcn V 6000 + 1 := hcn; omega) rfl rfl rfl rfl rfl
              refine lv_goto (pc := 196) (tgt := 237) C0.1 C0.2.1 dX10_write_196 (by decide) ?_
              refine lv_goto (pc := 237) (tgt := 59) C0.1 C0.2.1 dX10_write_237 (by decide) ?_
              exact ih59 nb ni np po pr ho (vmk V (4000 + cl (Fv 117 (Int32.toNatClampNeg x206)))) iv (va_up (va_up Fv 117 (upd (Fv 117) (Int32.toNatClampNeg x206) (Fv 107 (Int32.toNatClampNeg x207)))) 118 (upd (Fv 118) (Int32.toNatClampNeg x206) (-1))) Gv _ _ _ (RO.f (RO.f (RO.tr RO.rf h1 (by decide) (by decide)) (by decide)) (by decide)) hPW (show 0 ≤ Int32.toInt (iv 78 56) ∧ Int32.toInt (iv 78 56) + 2 * Int32.toInt (iv 78 63) ≤ 150000 * (vcn (vmk V (4000 + cl (Fv 117 (Int32.toNatClampNeg x206)))) 6000 : Int) + 2 from by have : vcn (vmk V (4000 + cl (Fv 117 (Int32.toNatClampNeg x206)))) 6000 = vcn V 6000 + 1 := hcn; omega) (show 12000 - 2 * (vcn (vmk V (4000 + cl (Fv 117 (Int32.toNatClampNeg x206)))) 6000 : Int) + Int32.toInt (iv 78 63) ≤ _ from by have : vcn (vmk V (4000 + cl (Fv 117 (Int32.toNatClampNeg x206)))) 6000 = vcn V 6000 + 1 := hcn; omega) hWB2 h6 hH hS (lv_sub hl [2, 3] rfl)
          · have : Int32.toInt (-1) = (-1) := rfl
            have c209 := congrArg Int32.toInt c209
            refine lv_aload_n (pc := 109) C0.1 C0.2.1 dX10_write_109 rfl (lv_at hl 2 rfl) ?_
            refine xget (pc := 110) C0 hH 78 33 clX10 ⟨Nat.le_of_ble_eq_true rfl, Nat.le_of_ble_eq_true rfl⟩ ⟨rfl, rfl⟩ (Nat.le_of_ble_eq_true rfl) fl_X10_73 (v := .ref (b + 98)) rfl dX10_write_110 ?_
            refine lv_aload_n (pc := 113) C0.1 C0.2.1 dX10_write_113 rfl (lv_at hl 2 rfl) ?_
            refine xget (pc := 114) C0 hH 78 57 clX10 ⟨Nat.le_of_ble_eq_true rfl, Nat.le_of_ble_eq_true rfl⟩ ⟨rfl, rfl⟩ (Nat.le_of_ble_eq_true rfl) fl_X10_127 (v := .ref (b + 116)) rfl dX10_write_114 ?_
            refine lv_iload_n (pc := 117) C0.1 C0.2.1 dX10_write_117 rfl (lv_at hl 1 rfl) ?_
            refine xiald (pc := 118) (N := 1202) C0 hH 116 ⟨Nat.le_of_ble_eq_true rfl, Nat.le_of_ble_eq_true rfl⟩ ⟨rfl, rfl⟩ (vI (by omega) (by omega)) dX10_write_118 ?_
            refine xiald (pc := 119) (N := 1202) C0 hH 98 ⟨Nat.le_of_ble_eq_true rfl, Nat.le_of_ble_eq_true rfl⟩ ⟨rfl, rfl⟩ (vI (by omega) (by omega)) dX10_write_119 ?_
            refine lv_iconst (pc := 120) (v := 4) C0.1 C0.2.1 dX10_write_120 (by decide) ?_
            refine lv_icmp_eq (pc := 121) (tgt := 134) C0.1 C0.2.1 dX10_write_121 (by decide) (fun c213 => ?_) (fun c213 => ?_)
            · have : Int32.toInt 4 = 4 := rfl
              have c213 := congrArg Int32.toInt c213
              refine lv_aload_n (pc := 134) C0.1 C0.2.1 dX10_write_134 rfl (lv_at hl 2 rfl) ?_
              refine xget (pc := 135) C0 hH 78 61 clX10 ⟨Nat.le_of_ble_eq_true rfl, Nat.le_of_ble_eq_true rfl⟩ ⟨rfl, rfl⟩ (Nat.le_of_ble_eq_true rfl) fl_X10_139 (v := .ref (b + 120)) rfl dX10_write_135 ?_
              refine lv_iload_n (pc := 138) C0.1 C0.2.1 dX10_write_138 rfl (lv_at hl 1 rfl) ?_
              refine lv_aload_n (pc := 139) C0.1 C0.2.1 dX10_write_139 rfl (lv_at hl 2 rfl) ?_
              refine xget (pc := 140) C0 hH 78 64 clX10 ⟨Nat.le_of_ble_eq_true rfl, Nat.le_of_ble_eq_true rfl⟩ ⟨rfl, rfl⟩ (Nat.le_of_ble_eq_true rfl) fl_X10_399 (v := .int (iv 78 64)) rfl dX10_write_140 ?_
              refine xiast (pc := 143) (N := 1202) C0 (Nat.le_of_ble_eq_true rfl) hH hS 120 ⟨Nat.le_of_ble_eq_true rfl, Nat.le_of_ble_eq_true rfl⟩ ⟨rfl, rfl⟩ (vI (by omega) (by omega)) dX10_write_143 (fun _ locs hH hS _ => ?_)
              have hH : Hd D tA b 78 52 zz iv (va_up Fv 120 (upd (Fv 120) (Int32.toNatClampNeg x206) (iv 78 64))) Gv _ := hH
              refine lv_aload_n (pc := 144) C0.1 C0.2.1 dX10_write_144 rfl (lv_at hl 2 rfl) ?_
              refine xget (pc := 145) C0 hH 78 62 clX10 ⟨Nat.le_of_ble_eq_true rfl, Nat.le_of_ble_eq_true rfl⟩ ⟨rfl, rfl⟩ (Nat.le_of_ble_eq_true rfl) fl_X10_142 (v := .ref (b + 121)) rfl dX10_write_145 ?_
              refine lv_iload_n (pc := 148) C0.1 C0.2.1 dX10_write_148 rfl (lv_at hl 1 rfl) ?_
              refine lv_iconst (pc := 149) (v := 0) C0.1 C0.2.1 dX10_write_149 (by decide) ?_
              refine xzast (pc := 150) (N := 1202) C0 (Nat.le_of_ble_eq_true rfl) hH hS 121 ⟨Nat.le_of_ble_eq_true rfl, Nat.le_of_ble_eq_true rfl⟩ ⟨rfl, rfl⟩ (by decide) (vI (by omega) (by omega)) dX10_write_150 (fun _ locs hH hS => ?_)
              have hH : Hd D tA b 78 52 zz iv (va_up (va_up Fv 120 (upd (Fv 120) (Int32.toNatClampNeg x206) (iv 78 64))) 121 (upd (Fv 121) (Int32.toNatClampNeg x206) 0)) Gv _ := hH
              refine lv_aload_n (pc := 151) C0.1 C0.2.1 dX10_write_151 rfl (lv_at hl 2 rfl) ?_
              refine xget (pc := 152) C0 hH 78 59 clX10 ⟨Nat.le_of_ble_eq_true rfl, Nat.le_of_ble_eq_true rfl⟩ ⟨rfl, rfl⟩ (Nat.le_of_ble_eq_true rfl) fl_X10_133 (v := .ref (b + 118)) rfl dX10_write_152 ?_
              refine lv_iload_n (pc := 155) C0.1 C0.2.1 dX10_write_155 rfl (lv_at hl 1 rfl) ?_
              refine lv_aload_n (pc := 156) C0.1 C0.2.1 dX10_write_156 rfl (lv_at hl 2 rfl) ?_
              refine xget (pc := 157) C0 hH 78 45 clX10 ⟨Nat.le_of_ble_eq_true rfl, Nat.le_of_ble_eq_true rfl⟩ ⟨rfl, rfl⟩ (Nat.le_of_ble_eq_true rfl) fl_X10_106 (v := .ref (b + 109)) rfl dX10_write_157 ?_
              refine lv_iload_n (pc := 160) C0.1 C0.2.1 dX10_write_160 rfl (lv_at hl 0 rfl) ?_
              refine xiald (pc := 161) (N := 1202) C0 hH 109 ⟨Nat.le_of_ble_eq_true rfl, Nat.le_of_ble_eq_true rfl⟩ ⟨rfl, rfl⟩ (vI (by omega) (by omega)) dX10_write_161 ?_
              refine lv_topi (fun q214 eq214 => ?_)
              obtain rfl : q214 = Fv 109 (Int32.toNatClampNeg x207) := eq214.trans rfl
              refine xiast (pc := 162) (N := 1202) C0 (Nat.le_of_ble_eq_true rfl) hH hS 118 ⟨Nat.le_of_ble_eq_true rfl, Nat.le_of_ble_eq_true rfl⟩ ⟨rfl, rfl⟩ (vI (by omega) (by omega)) dX10_write_162 (fun _ locs hH hS _ => ?_)
              have hH : Hd D tA b 78 52 zz iv (va_up (va_up (va_up Fv 120 (upd (Fv 120) (Int32.toNatClampNeg x206) (iv 78 64))) 121 (upd (Fv 121) (Int32.toNatClampNeg x206) 0)) 118 (upd (Fv 118) (Int32.toNatClampNeg x206) (Fv 109 (Int32.toNatClampNeg x207)))) Gv _ := hH
              have hp1 : (Fv 118 (Int32.toNatClampNeg x206)).toInt = -1 := (by have : Int32.toInt (-1) = -1 := rfl; omega)
              have e7b : Fv 117 = Fv 117 := rfl
              have e8b : Fv 118 = Fv 118 := rfl
              have hxb : ¬ (Fv 117 (Int32.toNatClampNeg x206)).toInt = -9 := by rw [e7b]; exact hxn
              have hpb : (Fv 118 (Int32.toNatClampNeg x206)).toInt = -1 := by rw [e8b]; exact hp1
              have hx3b : x207 = Fv 117 (Int32.toNatClampNeg x206) := by rw [e7b]; exact ex207
              obtain ⟨hVn, hlt, hPW⟩ := PW.s2 (i := iv) (F := Fv) (i2 := iv) (F2 := (va_up (va_up (va_up Fv 120 (upd (Fv 120) (Int32.toNatClampNeg x206) (iv 78 64))) 121 (upd (Fv 121) (Int32.toNatClampNeg x206) 0)) 118 (upd (Fv 118) (Int32.toNatClampNeg x206) (Fv 109 (Int32.toNatClampNeg x207))))) hPW (show (((Int32.toNatClampNeg x206) : Nat) : Int) + 1 = (iv 78 63).toInt from by omega) hxb hpb rfl (fun k a1 a2 => (va_up_ne _ _ (by omega)).trans ((va_up_ne _ _ (by omega)).trans (va_up_ne _ _ (by omega)))) rfl rfl (congrArg (fun z => upd (Fv 118) (Int32.toNatClampNeg x206) (Fv 109 (cl z))) hx3b)
              have hcn := vcn_mk (N := 6000) hVn (by omega)
              have e0b : Fv 120 = Fv 120 := rfl
              have hWB2 : WB (24 * (vcn (vmk V (2000 + cl (Fv 117 (Int32.toNatClampNeg x206)))) 6000 : Int)) iv (va_up (va_up (va_up Fv 120 (upd (Fv 120) (Int32.toNatClampNeg x206) (iv 78 64))) 121 (upd (Fv 121) (Int32.toNatClampNeg x206) 0)) 118 (upd (Fv 118) (Int32.toNatClampNeg x206) (Fv 109 (Int32.toNatClampNeg x207)))) := WB.st2 (D := (Int32.toNatClampNeg x206)) (v := Fv 109 (Int32.toNatClampNeg x207)) h5 (by have : vcn (vmk V (2000 + cl (Fv 117 (Int32.toNatClampNeg x206)))) 6000 = vcn V 6000 + 1 := hcn; omega) (show 0 ≤ Int32.toInt (iv 78 64) ∧ Int32.toInt (iv 78 64) ≤ _ from by omega) rfl (by show upd (Fv 118) _ _ = _; rw [e8b]) rfl (by show upd (Fv 120) _ _ = _; rw [e0b])
              refine lv_goto (pc := 163) (tgt := 237) C0.1 C0.2.1 dX10_write_163 (by decide) ?_
              refine lv_goto (pc := 237) (tgt := 59) C0.1 C0.2.1 dX10_write_237 (by decide) ?_
              exact ih59 nb ni np po pr ho (vmk V (2000 + cl (Fv 117 (Int32.toNatClampNeg x206)))) iv (va_up (va_up (va_up Fv 120 (upd (Fv 120) (Int32.toNatClampNeg x206) (iv 78 64))) 121 (upd (Fv 121) (Int32.toNatClampNeg x206) 0)) 118 (upd (Fv 118) (Int32.toNatClampNeg x206) (Fv 109 (Int32.toNatClampNeg x207)))) Gv _ _ _ (RO.f (RO.f (RO.f (RO.tr RO.rf h1 (by decide) (by decide)) (by decide)) (by decide)) (by decide)) hPW (show 0 ≤ Int32.toInt (iv 78 56) ∧ Int32.toInt (iv 78 56) + 2 * Int32.toInt (iv 78 63) ≤ 150000 * (vcn (vmk V (2000 + cl (Fv 117 (Int32.toNatClampNeg x206)))) 6000 : Int) + 2 from by have : vcn (vmk V (2000 + cl (Fv 117 (Int32.toNatClampNeg x206)))) 6000 = vcn V 6000 + 1 := hcn; omega) (show 12000 - 2 * (vcn (vmk V (2000 + cl (Fv 117 (Int32.toNatClampNeg x206)))) 6000 : Int) + Int32.toInt (iv 78 63) ≤ _ from by have : vcn (vmk V (2000 + cl (Fv 117 (Int32.toNatClampNeg x206)))) 6000 = vcn V 6000 + 1 := hcn; omega) hWB2 h6 hH hS (lv_sub hl [2, 3] rfl)
            · have : Int32.toInt 4 = 4 := rfl
              have c213 : ¬ _ := fun q => c213 (Int32.toInt_inj.mp q)
              refine lv_aload_n (pc := 124) C0.1 C0.2.1 dX10_write_124 rfl (lv_at hl 2 rfl) ?_
              refine lv_aload_n (pc := 125) C0.1 C0.2.1 dX10_write_125 rfl (lv_at hl 2 rfl) ?_
              refine xget (pc := 126) C0 hH 78 60 clX10 ⟨Nat.le_of_ble_eq_true rfl, Nat.le_of_ble_eq_true rfl⟩ ⟨rfl, rfl⟩ (Nat.le_of_ble_eq_true rfl) fl_X10_136 (v := .ref (b + 119)) rfl dX10_write_126 ?_
              refine lv_iload_n (pc := 129) C0.1 C0.2.1 dX10_write_129 rfl (lv_at hl 1 rfl) ?_
              refine xiald (pc := 130) (N := 1202) C0 hH 119 ⟨Nat.le_of_ble_eq_true rfl, Nat.le_of_ble_eq_true rfl⟩ ⟨rfl, rfl⟩ (vI (by omega) (by omega)) dX10_write_130 ?_
              refine xcVV (pc := 131) 78 [.int (Fv 119 (Int32.toNatClampNeg x206))] (m_beginLine l D tA b iv Fv Gv (Fv 119 (Int32.toNatClampNeg x206)) (show 0 ≤ Int32.toInt (iv 78 56) ∧ Int32.toInt (iv 78 56) ≤ 1500000000 from by omega) (show 0 ≤ Int32.toInt (Fv 119 (Int32.toNatClampNeg x206)) ∧ Int32.toInt (Fv 119 (Int32.toNatClampNeg x206)) ≤ 200000 from by omega)) C0 hH hS clX10 rfl ⟨⟨Nat.le_of_ble_eq_true rfl, Nat.le_of_ble_eq_true rfl⟩, rfl, rfl⟩ cw_X10_406 rfl ⟨Nat.le_of_ble_eq_true rfl, Nat.le_of_ble_eq_true rfl⟩ hl.1 rfl (Nat.le_of_ble_eq_true rfl) dX10_write_131 ⟨Nat.le_of_ble_eq_true rfl, Nat.le_of_ble_eq_true rfl⟩ (fun ir215 Fr215 Gr215 _ locs hp hH hS => ?_)
              obtain ⟨honr215, hdsr215, hlcr215⟩ := hp
              have hdsr215 : Int32.toInt (iv 78 56) ≤ (ir215 78 56).toInt ∧ (ir215 78 56).toInt ≤ Int32.toInt (iv 78 56) + 1 + Int32.toInt (Fv 119 (Int32.toNatClampNeg x206)) := hdsr215
              have hlcr215 : Int32.toInt (ir215 78 64) = Int32.toInt (Fv 119 (Int32.toNatClampNeg x206)) := congrArg Int32.toInt hlcr215
              have hPW : PW nb ni np po pr ho V ir215 Fr215 := PW.ro (i := iv) (F := Fv) hPW honr215 (by decide) (by decide)
              have hTA : TA (Fr215 89) (Fr215 90) := by rw [show Fr215 89 = Fv 89 from (honr215.2 89 (by decide)).1, show Fr215 90 = Fv 90 from (honr215.2 90 (by decide)).1]; exact hTA
              have hi_78_17 : ir215 78 17 = nI 85 := (honr215.1 78 17 (Or.inr (by decide))).trans hi_78_17
              have ek_54r215 : Int32.toInt (ir215 78 54) = Int32.toInt (iv 78 54) := congrArg Int32.toInt (honr215.1 78 54 (Or.inr (by decide)))
              have ek_63r215 : Int32.toInt (ir215 78 63) = Int32.toInt (iv 78 63) := congrArg Int32.toInt (honr215.1 78 63 (Or.inr (by decide)))
              refine lv_aload_n (pc := 134) C0.1 C0.2.1 dX10_write_134 rfl (lv_at hl 2 rfl) ?_
              refine xget (pc := 135) C0 hH 78 61 clX10 ⟨Nat.le_of_ble_eq_true rfl, Nat.le_of_ble_eq_true rfl⟩ ⟨rfl, rfl⟩ (Nat.le_of_ble_eq_true rfl) fl_X10_139 (v := .ref (b + 120)) rfl dX10_write_135 ?_
              refine lv_iload_n (pc := 138) C0.1 C0.2.1 dX10_write_138 rfl (lv_at hl 1 rfl) ?_
              refine lv_aload_n (pc := 139) C0.1 C0.2.1 dX10_write_139 rfl (lv_at hl 2 rfl) ?_
              refine xget (pc := 140) C0 hH 78 64 clX10 ⟨Nat.le_of_ble_eq_true rfl, Nat.le_of_ble_eq_true rfl⟩ ⟨rfl, rfl⟩ (Nat.le_of_ble_eq_true rfl) fl_X10_399 (v := .int (ir215 78 64)) rfl dX10_write_140 ?_
              refine xiast (pc := 143) (N := 1202) C0 (Nat.le_of_ble_eq_true rfl) hH hS 120 ⟨Nat.le_of_ble_eq_true rfl, Nat.le_of_ble_eq_true rfl⟩ ⟨rfl, rfl⟩ (vI (by omega) (by omega)) dX10_write_143 (fun _ locs hH hS _ => ?_)
              have hH : Hd D tA b 78 52 zz ir215 (va_up Fr215 120 (upd (Fr215 120) (Int32.toNatClampNeg x206) (ir215 78 64))) Gr215 _ := hH
              refine lv_aload_n (pc := 144) C0.1 C0.2.1 dX10_write_144 rfl (lv_at hl 2 rfl) ?_
              refine xget (pc := 145) C0 hH 78 62 clX10 ⟨Nat.le_of_ble_eq_true rfl, Nat.le_of_ble_eq_true rfl⟩ ⟨rfl, rfl⟩ (Nat.le_of_ble_eq_true rfl) fl_X10_142 (v := .ref (b + 121)) rfl dX10_write_145 ?_
              refine lv_iload_n (pc := 148) C0.1 C0.2.1 dX10_write_148 rfl (lv_at hl 1 rfl) ?_
              refine lv_iconst (pc := 149) (v := 0) C0.1 C0.2.1 dX10_write_149 (by decide) ?_
              refine xzast (pc := 150) (N := 1202) C0 (Nat.le_of_ble_eq_true rfl) hH hS 121 ⟨Nat.le_of_ble_eq_true rfl, Nat.le_of_ble_eq_true rfl⟩ ⟨rfl, rfl⟩ (by decide) (vI (by omega) (by omega)) dX10_write_150 (fun _ locs hH hS => ?_)
              have hH : Hd D tA b 78 52 zz ir215 (va_up (va_up Fr215 120 (upd (Fr215 120) (Int32.toNatClampNeg x206) (ir215 78 64))) 121 (upd (Fr215 121) (Int32.toNatClampNeg x206) 0)) Gr215 _ := hH
              refine lv_aload_n (pc := 151) C0.1 C0.2.1 dX10_write_151 rfl (lv_at hl 2 rfl) ?_
              refine xget (pc := 152) C0 hH 78 59 clX10 ⟨Nat.le_of_ble_eq_true rfl, Nat.le_of_ble_eq_true rfl⟩ ⟨rfl, rfl⟩ (Nat.le_of_ble_eq_true rfl) fl_X10_133 (v := .ref (b + 118)) rfl dX10_write_152 ?_
              refine lv_iload_n (pc := 155) C0.1 C0.2.1 dX10_write_155 rfl (lv_at hl 1 rfl) ?_
              refine lv_aload_n (pc := 156) C0.1 C0.2.1 dX10_write_156 rfl (lv_at hl 2 rfl) ?_
              refine xget (pc := 157) C0 hH 78 45 clX10 ⟨Nat.le_of_ble_eq_true rfl, Nat.le_of_ble_eq_true rfl⟩ ⟨rfl, rfl⟩ (Nat.le_of_ble_eq_true rfl) fl_X10_106 (v := .ref (b + 109)) rfl dX10_write_157 ?_
              refine lv_iload_n (pc := 160) C0.1 C0.2.1 dX10_write_160 rfl (lv_at hl 0 rfl) ?_
              refine xiald (pc := 161) (N := 1202) C0 hH 109 ⟨Nat.le_of_ble_eq_true rfl, Nat.le_of_ble_eq_true rfl⟩ ⟨rfl, rfl⟩ (vI (by omega) (by omega)) dX10_write_161 ?_
              refine lv_topi (fun q216 eq216 => ?_)
              obtain rfl : q216 = Fr215 109 (Int32.toNatClampNeg x207) := eq216.trans rfl
              refine xiast (pc := 162) (N := 1202) C0 (Nat.le_of_ble_eq_true rfl) hH hS 118 ⟨Nat.le_of_ble_eq_true rfl, Nat.le_of_ble_eq_true rfl⟩ ⟨rfl, rfl⟩ (vI (by omega) (by omega)) dX10_write_162 (fun _ locs hH hS _ => ?_)
              have hH : Hd D tA b 78 52 zz ir215 (va_up (va_up (va_up Fr215 120 (upd (Fr215 120) (Int32.toNatClampNeg x206) (ir215 78 64))) 121 (upd (Fr215 121) (Int32.toNatClampNeg x206) 0)) 118 (upd (Fr215 118) (Int32.toNatClampNeg x206) (Fr215 109 (Int32.toNatClampNeg x207)))) Gr215 _ := hH
              have hp1 : (Fv 118 (Int32.toNatClampNeg x206)).toInt = -1 := (by have : Int32.toInt (-1) = -1 := rfl; omega)
              have e7b : Fr215 117 = Fv 117 := (honr215.2 117 (by decide)).1
              have e8b : Fr215 118 = Fv 118 := (honr215.2 118 (by decide)).1
              have hxb : ¬ (Fr215 117 (Int32.toNatClampNeg x206)).toInt = -9 := by rw [e7b]; exact hxn
              have hpb : (Fr215 118 (Int32.toNatClampNeg x206)).toInt = -1 := by rw [e8b]; exact hp1
              have hx3b : x207 = Fr215 117 (Int32.toNatClampNeg x206) := by rw [e7b]; exact ex207
              obtain ⟨hVn, hlt, hPW⟩ := PW.s2 (i := ir215) (F := Fr215) (i2 := ir215) (F2 := (va_up (va_up (va_up Fr215 120 (upd (Fr215 120) (Int32.toNatClampNeg x206) (ir215 78 64))) 121 (upd (Fr215 121) (Int32.toNatClampNeg x206) 0)) 118 (upd (Fr215 118) (Int32.toNatClampNeg x206) (Fr215 109 (Int32.toNatClampNeg x207))))) hPW (show (((Int32.toNatClampNeg x206) : Nat) : Int) + 1 = (ir215 78 63).toInt from by omega) hxb hpb rfl (fun k a1 a2 => (va_up_ne _ _ (by omega)).trans ((va_up_ne _ _ (by omega)).trans (va_up_ne _ _ (by omega)))) rfl rfl (congrArg (fun z => upd (Fr215 118) (Int32.toNatClampNeg x206) (Fr215 109 (cl z))) hx3b)
              have hcn := vcn_mk (N := 6000) hVn (by omega)
              have e0b : Fr215 120 = Fv 120 := (honr215.2 120 (by decide)).1
              have hWB2 : WB (24 * (vcn (vmk V (2000 + cl (Fr215 117 (Int32.toNatClampNeg x206)))) 6000 : Int)) ir215 (va_up (va_up (va_up Fr215 120 (upd (Fr215 120) (Int32.toNatClampNeg x206) (ir215 78 64))) 121 (upd (Fr215 121) (Int32.toNatClampNeg x206) 0)) 118 (upd (Fr215 118) (Int32.toNatClampNeg x206) (Fr215 109 (Int32.toNatClampNeg x207)))) := WB.st2 (D := (Int32.toNatClampNeg x206)) (v := Fr215 109 (Int32.toNatClampNeg x207)) h5 (by have : vcn (vmk V (2000 + cl (Fr215 117 (Int32.toNatClampNeg x206)))) 6000 = vcn V 6000 + 1 := hcn; omega) (show 0 ≤ Int32.toInt (ir215 78 64) ∧ Int32.toInt (ir215 78 64) ≤ _ from by omega) (honr215.1 78 63 (Or.inr (by decide))) (by show upd (Fr215 118) _ _ = _; rw [e8b]) (honr215.2 119 (by decide)).1 (by show upd (Fr215 120) _ _ = _; rw [e0b])
              refine lv_goto (pc := 163) (tgt := 237) C0.1 C0.2.1 dX10_write_163 (by decide) ?_
              refine lv_goto (pc := 237) (tgt := 59) C0.1 C0.2.1 dX10_write_237 (by decide) ?_
              exact ih59 nb ni np po pr ho (vmk V (2000 + cl (Fr215 117 (Int32.toNatClampNeg x206)))) ir215 (va_up (va_up (va_up Fr215 120 (upd (Fr215 120) (Int32.toNatClampNeg x206) (ir215 78 64))) 121 (upd (Fr215 121) (Int32.toNatClampNeg x206) 0)) 118 (upd (Fr215 118) (Int32.toNatClampNeg x206) (Fr215 109 (Int32.toNatClampNeg x207)))) Gr215 _ _ _ (RO.f (RO.f (RO.f (RO.tr (RO.tr RO.rf h1 (by decide) (by decide)) honr215 (by decide) (by decide)) (by decide)) (by decide)) (by decide)) hPW (show 0 ≤ Int32.toInt (ir215 78 56) ∧ Int32.toInt (ir215 78 56) + 2 * Int32.toInt (ir215 78 63) ≤ 150000 * (vcn (vmk V (2000 + cl (Fr215 117 (Int32.toNatClampNeg x206)))) 6000 : Int) + 2 from by have : vcn (vmk V (2000 + cl (Fr215 117 (Int32.toNatClampNeg x206)))) 6000 = vcn V 6000 + 1 := hcn; omega) (show 12000 - 2 * (vcn (vmk V (2000 + cl (Fr215 117 (Int32.toNatClampNeg x206)))) 6000 : Int) + Int32.toInt (ir215 78 63) ≤ _ from by have : vcn (vmk V (2000 + cl (Fr215 117 (Int32.toNatClampNeg x206)))) 6000 = vcn V 6000 + 1 := hcn; omega) hWB2 h6 hH hS (lv_sub hl [2, 3] rfl)
        · have : Int32.toInt (-9) = (-9) := rfl
          have c208 := congrArg Int32.toInt c208
          refine lv_aload_n (pc := 86) C0.1 C0.2.1 dX10_write_86 rfl (lv_at hl 2 rfl) ?_
          refine lv_dup (pc := 87) C0.1 C0.2.1 dX10_write_87 rfl ?_
          refine xget (pc := 88) C0 hH 78 63 clX10 ⟨Nat.le_of_ble_eq_true rfl, Nat.le_of_ble_eq_true rfl⟩ ⟨rfl, rfl⟩ (Nat.le_of_ble_eq_true rfl) fl_X10_375 (v := .int (iv 78 63)) rfl dX10_write_88 ?_
          refine lv_iconst (pc := 91) (v := 1) C0.1 C0.2.1 dX10_write_91 (by decide) ?_
          have : Int32.toInt 1 = 1 := rfl
          refine lv_isub (pc := 92) C0.1 C0.2.1 dX10_write_92 ?_
          refine lv_topi (fun x217 ex217 => ?_)
          have hx217 : Int32.toInt x217 = Int32.toInt (iv 78 63) - Int32.toInt 1 := by rw [ex217]; exact fb_subI (by omega) (by omega)
          refine xputI (pc := 93) C0 (Nat.le_of_ble_eq_true rfl) hH hS 78 63 clX10 ⟨Nat.le_of_ble_eq_true rfl, Nat.le_of_ble_eq_true rfl⟩ ⟨rfl, rfl⟩ ⟨Nat.le_of_ble_eq_true rfl, rfl, rfl⟩ fl_X10_375 (x := x217) ⟨rfl, rfl⟩ dX10_write_93 (fun _ locs hH hS _ => ?_)
          have hH : Hd D tA b 78 52 zz (up2 iv 78 63 x217) Fv Gv _ := hH
          have hPW : PW nb ni np po pr ho V (up2 iv 78 63 x217) Fv := PW.s1 (i := iv) (F := Fv) hPW (show Int32.toInt x217 = (iv 78 63).toInt - 1 from by omega) (by omega)
          have hWB2 : WB (24 * (vcn V 6000 : Int)) (up2 iv 78 63 x217) Fv := WB.pop h5 rfl (show Int32.toInt x217 ≤ (iv 78 63).toInt from by omega) rfl rfl rfl
          refine lv_goto (pc := 96) (tgt := 237) C0.1 C0.2.1 dX10_write_96 (by decide) ?_
          refine lv_goto (pc := 237) (tgt := 59) C0.1 C0.2.1 dX10_write_237 (by decide) ?_
          exact ih59 nb ni np po pr ho V (up2 iv 78 63 x217) Fv Gv _ _ _ (RO.i (RO.tr RO.rf h1 (by decide) (by decide)) (by decide)) hPW (show 0 ≤ Int32.toInt (iv 78 56) ∧ Int32.toInt (iv 78 56) + 2 * Int32.toInt x217 ≤ 150000 * (vcn V 6000 : Int) + 2 from by omega) (show 12000 - 2 * (vcn V 6000 : Int) + Int32.toInt x217 ≤ _ from by omega) hWB2 h6 hH hS (lv_sub hl [2, 3] rfl)
  refine lv_iload_n (pc := 0) C0.1 C0.2.1 dX10_write_0 rfl (lv_at hl 1 rfl) ?_
  refine lv_i2l (pc := 1) (v := x.toInt64) C0.1 C0.2.1 dX10_write_1 rfl ?_
  refine lv_lconst (pc := 2) (v := 1) C0.1 C0.2.1 dX10_write_2 (by decide) ?_
  refine lv_ldc2 (pc := 3) C0.1 C0.2.1 C0.2.2.2.1 (C0.2.2.2.2.1 _ kl_X10_214) dX10_write_3 ?_
  refine xcSI (pc := 6) [.long x.toInt64, .long 1, .long 8] (c_X10_in l D tA b 78 52 i F G x.toInt64 1 8) C0 hH hS cw_X10_175 rfl ⟨Nat.le_of_ble_eq_true rfl, Nat.le_of_ble_eq_true rfl⟩ hl.1 rfl (Nat.le_of_ble_eq_true rfl) dX10_write_6 ⟨Nat.le_of_ble_eq_true rfl, Nat.le_of_ble_eq_true rfl⟩ (fun r1 ir1 Fr1 Gr1 _ locs hp hH hS => ?_)
  obtain ⟨hu, rfl⟩ := hp
  cases hu
  refine lv_if_ne (pc := 9) (tgt := 15) C0.1 C0.2.1 dX10_write_9 (by decide) (fun c2 => ?_) (fun c2 => ?_)
  · have : Int64.toInt 1 = 1 := rfl
    have : Int64.toInt 8 = 8 := rfl
    have c2 := in_1i c2
    refine lv_aload_n (pc := 15) C0.1 C0.2.1 dX10_write_15 rfl (lv_at hl 0 rfl) ?_
    refine xget (pc := 16) C0 hH 78 15 clX10 ⟨Nat.le_of_ble_eq_true rfl, Nat.le_of_ble_eq_true rfl⟩ ⟨rfl, rfl⟩ (Nat.le_of_ble_eq_true rfl) fl_X10_211 (v := .int (i 78 15)) rfl dX10_write_16 ?_
    refine lv_iconst (pc := 19) (v := 1) C0.1 C0.2.1 dX10_write_19 (by decide) ?_
    refine lv_icmp_ne (pc := 20) (tgt := 30) C0.1 C0.2.1 dX10_write_20 (by decide) (fun c3 => ?_) (fun c3 => ?_)
    · have : Int32.toInt 1 = 1 := rfl
      have c3 : ¬ _ := fun q => c3 (Int32.toInt_inj.mp q)
      refine lv_bipush (pc := 30) (v := (-3)) C0.1 C0.2.1 dX10_write_30 (by decide) ?_
      exact xiret (pc := 32) C0 hr hH hS dX10_write_32 ⟨hI, RO.rf⟩
    · have : Int32.toInt 1 = 1 := rfl
      have c3 := congrArg Int32.toInt c3
      have hGT := hIs.gt (by have : Int32.toInt 1 = 1 := rfl; omega)
      refine lv_aload_n (pc := 23) C0.1 C0.2.1 dX10_write_23 rfl (lv_at hl 0 rfl) ?_
      refine xcVI (pc := 24) 78 [] (m_isWritable l D tA b i F G hI hBR hGT) C0 hH hS clX10 rfl ⟨⟨Nat.le_of_ble_eq_true rfl, Nat.le_of_ble_eq_true rfl⟩, rfl, rfl⟩ cw_X10_412 rfl ⟨Nat.le_of_ble_eq_true rfl, Nat.le_of_ble_eq_true rfl⟩ hl.1 rfl (Nat.le_of_ble_eq_true rfl) dX10_write_24 ⟨Nat.le_of_ble_eq_true rfl, Nat.le_of_ble_eq_true rfl⟩ (fun r4 ir4 Fr4 Gr4 _ locs hp hH hS => ?_)
      obtain ⟨hu, h01r4⟩ := hp
      cases hu
      refine lv_if_ne (pc := 27) (tgt := 33) C0.1 C0.2.1 dX10_write_27 (by decide) (fun c5 => ?_) (fun c5 => ?_)
      · have : Int32.toInt 0 = 0 := rfl
        have c5 : ¬ _ := fun q => c5 (Int32.toInt_inj.mp q)
        obtain ⟨⟨nb, ni, np, po, pr, ho, ⟨hnb1, -, -⟩, hTO⟩, -⟩ := hIs.gt (by have : Int32.toInt 1 = 1 := rfl; omega)
        refine lv_aload_n (pc := 33) C0.1 C0.2.1 dX10_write_33 rfl (lv_at hl 0 rfl) ?_
        refine lv_iconst (pc := 34) (v := 0) C0.1 C0.2.1 dX10_write_34 (by decide) ?_
        refine xputI (pc := 35) C0 (Nat.le_of_ble_eq_true rfl) hH hS 78 56 clX10 ⟨Nat.le_of_ble_eq_true rfl, Nat.le_of_ble_eq_true rfl⟩ ⟨rfl, rfl⟩ ⟨Nat.le_of_ble_eq_true rfl, rfl, rfl⟩ fl_X10_369 (x := 0) ⟨rfl, rfl⟩ dX10_write_35 (fun _ locs hH hS _ => ?_)
        have hH : Hd D tA b 78 52 zz (up2 i 78 56 0) F G _ := hH
        refine lv_aload_n (pc := 38) C0.1 C0.2.1 dX10_write_38 rfl (lv_at hl 0 rfl) ?_
        refine lv_iconst (pc := 39) (v := 0) C0.1 C0.2.1 dX10_write_39 (by decide) ?_
        refine xputI (pc := 40) C0 (Nat.le_of_ble_eq_true rfl) hH hS 78 63 clX10 ⟨Nat.le_of_ble_eq_true rfl, Nat.le_of_ble_eq_true rfl⟩ ⟨rfl, rfl⟩ ⟨Nat.le_of_ble_eq_true rfl, rfl, rfl⟩ fl_X10_375 (x := 0) ⟨rfl, rfl⟩ dX10_write_40 (fun _ locs hH hS _ => ?_)
        have hH : Hd D tA b 78 52 zz (up2 (up2 i 78 56 0) 78 63 0) F G _ := hH
        refine lv_aload_n (pc := 43) C0.1 C0.2.1 dX10_write_43 rfl (lv_at hl 0 rfl) ?_
        refine lv_iconst (pc := 44) (v := 0) C0.1 C0.2.1 dX10_write_44 (by decide) ?_
        refine xputI (pc := 45) C0 (Nat.le_of_ble_eq_true rfl) hH hS 78 64 clX10 ⟨Nat.le_of_ble_eq_true rfl, Nat.le_of_ble_eq_true rfl⟩ ⟨rfl, rfl⟩ ⟨Nat.le_of_ble_eq_true rfl, rfl, rfl⟩ fl_X10_399 (x := 0) ⟨rfl, rfl⟩ dX10_write_45 (fun _ locs hH hS _ => ?_)
        have hH : Hd D tA b 78 52 zz (up2 (up2 (up2 i 78 56 0) 78 63 0) 78 64 0) F G _ := hH
        refine lv_aload_n (pc := 48) C0.1 C0.2.1 dX10_write_48 rfl (lv_at hl 0 rfl) ?_
        refine lv_iconst (pc := 49) (v := 1) C0.1 C0.2.1 dX10_write_49 (by decide) ?_
        refine xputI (pc := 50) C0 (Nat.le_of_ble_eq_true rfl) hH hS 78 65 clX10 ⟨Nat.le_of_ble_eq_true rfl, Nat.le_of_ble_eq_true rfl⟩ ⟨rfl, rfl⟩ ⟨Nat.le_of_ble_eq_true rfl, rfl, rfl⟩ fl_X10_402 (x := 1) ⟨rfl, rfl⟩ dX10_write_50 (fun _ locs hH hS _ => ?_)
        have hH : Hd D tA b 78 52 zz (up2 (up2 (up2 (up2 i 78 56 0) 78 63 0) 78 64 0) 78 65 1) F G _ := hH
        refine lv_aload_n (pc := 53) C0.1 C0.2.1 dX10_write_53 rfl (lv_at hl 0 rfl) ?_
        refine lv_iconst (pc := 54) (v := 0) C0.1 C0.2.1 dX10_write_54 (by decide) ?_
        refine lv_iconst (pc := 55) (v := 0) C0.1 C0.2.1 dX10_write_55 (by decide) ?_
        refine xcVV (pc := 56) 78 [.int 0, .int 0] (m_enter l D tA b (up2 (up2 (up2 (up2 i 78 56 0) 78 63 0) 78 64 0) 78 65 1) F G 0 0 (show 0 ≤ Int32.toInt 0 ∧ Int32.toInt 0 < 1202 from by have : Int32.toInt 0 = 0 := rfl; omega) (show 0 ≤ Int32.toInt 0 ∧ Int32.toInt 0 < 1202 from by first | omega | decide)) C0 hH hS clX10 rfl ⟨⟨Nat.le_of_ble_eq_true rfl, Nat.le_of_ble_eq_true rfl⟩, rfl, rfl⟩ cw_X10_384 rfl ⟨Nat.le_of_ble_eq_true rfl, Nat.le_of_ble_eq_true rfl⟩ hl.1 rfl (Nat.le_of_ble_eq_true rfl) dX10_write_56 ⟨Nat.le_of_ble_eq_true rfl, Nat.le_of_ble_eq_true rfl⟩ (fun ir6 Fr6 Gr6 _ locs hp hH hS => ?_)
        obtain ⟨honr6, hdpr6, h116r6, h117r6, h118r6, h119r6⟩ := hp
        have hdpr6 : (ir6 78 63).toInt = Int32.toInt 0 + 1 := hdpr6
        have h116r6 : Fr6 116 = upd (F 116) (Int32.toNatClampNeg 0) 0 := h116r6
        have h117r6 : Fr6 117 = upd (F 117) (Int32.toNatClampNeg 0) (F 103 (Int32.toNatClampNeg 0)) := h117r6
        have h118r6 : Fr6 118 = upd (F 118) (Int32.toNatClampNeg 0) (-1) := h118r6
        have h119r6 : Fr6 119 = upd (F 119) (Int32.toNatClampNeg 0) 0 := h119r6
        have hi_78_17 : ir6 78 17 = nI 85 := (honr6.1 78 17 (Or.inr (by decide))).trans hi_78_17
        have ek_54r6 : Int32.toInt (ir6 78 54) = Int32.toInt (i 78 54) := congrArg Int32.toInt (honr6.1 78 54 (Or.inr (by decide)))
        have ek_56r6 : Int32.toInt (ir6 78 56) = Int32.toInt 0 := congrArg Int32.toInt (honr6.1 78 56 (Or.inr (by decide)))
        have ek_64r6 : Int32.toInt (ir6 78 64) = Int32.toInt 0 := congrArg Int32.toInt (honr6.1 78 64 (Or.inr (by decide)))
        exact L59 12001 nb ni np po pr ho (fun _ => false) ir6 Fr6 Gr6 _ _ _ (RO.tr (RO.i (RO.i (RO.i (RO.i RO.rf (by decide)) (by decide)) (by decide)) (by decide)) honr6 (by decide) (by decide)) (PW.s5 (i := (up2 (up2 (up2 (up2 i 78 56 0) 78 63 0) 78 64 0) 78 65 1)) (F := F) (cI := 0) (PW.zero hTO rfl) rfl ⟨(show Int32.toInt 0 ≤ 0 from by decide), by omega⟩ (fun d hd => absurd hd (show ¬ (d : Int) < Int32.toInt 0 from by have : Int32.toInt 0 = 0 := rfl; omega)) (Or.inl rfl) rfl (fun _ _ _ => ⟨rfl, rfl⟩) hdpr6 (fun k a1 a2 => (honr6.2 k (fun q => by simp only [List.mem_cons, List.not_mem_nil, or_false] at q; omega)).1) h116r6 h117r6 h118r6) (show 0 ≤ Int32.toInt (ir6 78 56) ∧ Int32.toInt (ir6 78 56) + 2 * Int32.toInt (ir6 78 63) ≤ 150000 * (vcn (fun _ => false) 6000 : Int) + 2 from by have := vcn_z 6000; have : Int32.toInt 0 = 0 := rfl; omega) (show 12000 - 2 * (vcn (fun _ => false) 6000 : Int) + Int32.toInt (ir6 78 63) ≤ _ from by have := vcn_z 6000; have : Int32.toInt 0 = 0 := rfl; omega) (WB.one (by have := vcn_z 6000; omega) (honr6.1 78 64 (Or.inr (by decide))) (show (ir6 78 63).toInt = 1 from by have : Int32.toInt 0 = 0 := rfl; omega) (by rw [h118r6]; exact upd_s (n := 0)) (by rw [h119r6]; exact upd_s (n := 0))) (by omega) hH hS (lv_sub hl [0, 1] rfl)
      · have : Int32.toInt 0 = 0 := rfl
        have c5 := congrArg Int32.toInt c5
        refine lv_bipush (pc := 30) (v := (-3)) C0.1 C0.2.1 dX10_write_30 (by decide) ?_
        exact xiret (pc := 32) C0 hr hH hS dX10_write_32 ⟨hI, RO.rf⟩
  · have : Int64.toInt 1 = 1 := rfl
    have : Int64.toInt 8 = 8 := rfl
    have c2 := in_0i c2
    refine lv_bipush (pc := 12) (v := (-2)) C0.1 C0.2.1 dX10_write_12 (by decide) ?_
    exact xiret (pc := 14) C0 hr hH hS dX10_write_14 ⟨hI, RO.rf⟩
