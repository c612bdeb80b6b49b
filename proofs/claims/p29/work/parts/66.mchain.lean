set_option maxRecDepth 20000 in
theorem kl_X10_367 : Cond.constantLong RX10 367 5 ∈ WALL := wm 1493 (by decide +kernel) rfl
theorem dX10_part_60 : decode cX10_part 60 = .ok (.iload 4, 2) := by decide +kernel
theorem dX10_part_62 : decode cX10_part 62 = .ok (.iload_n 2, 1) := by decide +kernel
theorem dX10_part_63 : decode cX10_part 63 = .ok (.if_icmp .ge 16, 3) := by decide +kernel
theorem dX10_part_79 : decode cX10_part 79 = .ok (.aload_n 0, 1) := by decide +kernel
theorem dX10_part_80 : decode cX10_part 80 = .ok (.getfield 112, 3) := by decide +kernel
theorem dX10_part_83 : decode cX10_part 83 = .ok (.iload_n 3, 1) := by decide +kernel
theorem dX10_part_84 : decode cX10_part 84 = .ok (.iaload, 1) := by decide +kernel
theorem dX10_part_85 : decode cX10_part 85 = .ok (.ireturn, 1) := by decide +kernel
theorem dX10_part_66 : decode cX10_part 66 = .ok (.aload_n 0, 1) := by decide +kernel
theorem dX10_part_67 : decode cX10_part 67 = .ok (.getfield 115, 3) := by decide +kernel
theorem dX10_part_70 : decode cX10_part 70 = .ok (.iload_n 3, 1) := by decide +kernel
theorem dX10_part_71 : decode cX10_part 71 = .ok (.iaload, 1) := by decide +kernel
theorem dX10_part_72 : decode cX10_part 72 = .ok (.istore_n 3, 1) := by decide +kernel
theorem dX10_part_73 : decode cX10_part 73 = .ok (.iinc 4 1, 3) := by decide +kernel
theorem dX10_part_76 : decode cX10_part 76 = .ok (.goto (-16), 3) := by decide +kernel
theorem dX10_part_0 : decode cX10_part 0 = .ok (.aload_n 0, 1) := by decide +kernel
theorem dX10_part_1 : decode cX10_part 1 = .ok (.getfield 211, 3) := by decide +kernel
theorem dX10_part_4 : decode cX10_part 4 = .ok (.iconst 1, 1) := by decide +kernel
theorem dX10_part_5 : decode cX10_part 5 = .ok (.if_icmp .eq 6, 3) := by decide +kernel
theorem dX10_part_11 : decode cX10_part 11 = .ok (.iload_n 1, 1) := by decide +kernel
theorem dX10_part_12 : decode cX10_part 12 = .ok (.i2l, 1) := by decide +kernel
theorem dX10_part_13 : decode cX10_part 13 = .ok (.lconst 0, 1) := by decide +kernel
theorem dX10_part_14 : decode cX10_part 14 = .ok (.aload_n 0, 1) := by decide +kernel
theorem dX10_part_15 : decode cX10_part 15 = .ok (.getfield 287, 3) := by decide +kernel
theorem dX10_part_18 : decode cX10_part 18 = .ok (.iconst 1, 1) := by decide +kernel
theorem dX10_part_19 : decode cX10_part 19 = .ok (.isub, 1) := by decide +kernel
theorem dX10_part_20 : decode cX10_part 20 = .ok (.i2l, 1) := by decide +kernel
theorem dX10_part_21 : decode cX10_part 21 = .ok (.invokestatic 175, 3) := by decide +kernel
theorem dX10_part_24 : decode cX10_part 24 = .ok (.ifCond .ne 5, 3) := by decide +kernel
theorem dX10_part_29 : decode cX10_part 29 = .ok (.iload_n 2, 1) := by decide +kernel
theorem dX10_part_30 : decode cX10_part 30 = .ok (.i2l, 1) := by decide +kernel
theorem dX10_part_31 : decode cX10_part 31 = .ok (.lconst 0, 1) := by decide +kernel
theorem dX10_part_32 : decode cX10_part 32 = .ok (.aload_n 0, 1) := by decide +kernel
theorem dX10_part_33 : decode cX10_part 33 = .ok (.getfield 103, 3) := by decide +kernel
theorem dX10_part_36 : decode cX10_part 36 = .ok (.iload_n 1, 1) := by decide +kernel
theorem dX10_part_37 : decode cX10_part 37 = .ok (.iaload, 1) := by decide +kernel
theorem dX10_part_38 : decode cX10_part 38 = .ok (.iconst 1, 1) := by decide +kernel
theorem dX10_part_39 : decode cX10_part 39 = .ok (.isub, 1) := by decide +kernel
theorem dX10_part_40 : decode cX10_part 40 = .ok (.i2l, 1) := by decide +kernel
theorem dX10_part_41 : decode cX10_part 41 = .ok (.invokestatic 175, 3) := by decide +kernel
theorem dX10_part_44 : decode cX10_part 44 = .ok (.ifCond .ne 6, 3) := by decide +kernel
theorem dX10_part_50 : decode cX10_part 50 = .ok (.aload_n 0, 1) := by decide +kernel
theorem dX10_part_51 : decode cX10_part 51 = .ok (.getfield 106, 3) := by decide +kernel
theorem dX10_part_54 : decode cX10_part 54 = .ok (.iload_n 1, 1) := by decide +kernel
theorem dX10_part_55 : decode cX10_part 55 = .ok (.iaload, 1) := by decide +kernel
theorem dX10_part_56 : decode cX10_part 56 = .ok (.istore_n 3, 1) := by decide +kernel
theorem dX10_part_57 : decode cX10_part 57 = .ok (.iconst 0, 1) := by decide +kernel
theorem dX10_part_58 : decode cX10_part 58 = .ok (.istore 4, 2) := by decide +kernel
theorem dX10_part_47 : decode cX10_part 47 = .ok (.bipush (-12), 2) := by decide +kernel
theorem dX10_part_49 : decode cX10_part 49 = .ok (.ireturn, 1) := by decide +kernel
theorem dX10_part_27 : decode cX10_part 27 = .ok (.iconst (-1), 1) := by decide +kernel
theorem dX10_part_28 : decode cX10_part 28 = .ok (.ireturn, 1) := by decide +kernel
theorem dX10_part_8 : decode cX10_part 8 = .ok (.bipush (-3), 2) := by decide +kernel
theorem dX10_part_10 : decode cX10_part 10 = .ok (.ireturn, 1) := by decide +kernel
theorem dX10_itemAs_165 : decode cX10_itemAs 165 = .ok (.iload 8, 2) := by decide +kernel
theorem dX10_itemAs_167 : decode cX10_itemAs 167 = .ok (.iload_n 3, 1) := by decide +kernel
theorem dX10_itemAs_168 : decode cX10_itemAs 168 = .ok (.if_icmp .ge 18, 3) := by decide +kernel
theorem dX10_itemAs_186 : decode cX10_itemAs 186 = .ok (.iload 7, 2) := by decide +kernel
theorem dX10_itemAs_188 : decode cX10_itemAs 188 = .ok (.ireturn, 1) := by decide +kernel
theorem dX10_itemAs_171 : decode cX10_itemAs 171 = .ok (.aload_n 0, 1) := by decide +kernel
theorem dX10_itemAs_172 : decode cX10_itemAs 172 = .ok (.getfield 100, 3) := by decide +kernel
theorem dX10_itemAs_175 : decode cX10_itemAs 175 = .ok (.iload 7, 2) := by decide +kernel
theorem dX10_itemAs_177 : decode cX10_itemAs 177 = .ok (.iaload, 1) := by decide +kernel
theorem dX10_itemAs_178 : decode cX10_itemAs 178 = .ok (.istore 7, 2) := by decide +kernel
theorem dX10_itemAs_180 : decode cX10_itemAs 180 = .ok (.iinc 8 1, 3) := by decide +kernel
theorem dX10_itemAs_183 : decode cX10_itemAs 183 = .ok (.goto (-18), 3) := by decide +kernel
theorem dX10_itemAs_125 : decode cX10_itemAs 125 = .ok (.iload 6, 2) := by decide +kernel
theorem dX10_itemAs_127 : decode cX10_itemAs 127 = .ok (.ifCond .ne 6, 3) := by decide +kernel
theorem dX10_itemAs_133 : decode cX10_itemAs 133 = .ok (.iload_n 3, 1) := by decide +kernel
theorem dX10_itemAs_134 : decode cX10_itemAs 134 = .ok (.i2l, 1) := by decide +kernel
theorem dX10_itemAs_135 : decode cX10_itemAs 135 = .ok (.lconst 0, 1) := by decide +kernel
theorem dX10_itemAs_136 : decode cX10_itemAs 136 = .ok (.aload_n 0, 1) := by decide +kernel
theorem dX10_itemAs_137 : decode cX10_itemAs 137 = .ok (.getfield 85, 3) := by decide +kernel
theorem dX10_itemAs_140 : decode cX10_itemAs 140 = .ok (.iload_n 1, 1) := by decide +kernel
theorem dX10_itemAs_141 : decode cX10_itemAs 141 = .ok (.iaload, 1) := by decide +kernel
theorem dX10_itemAs_142 : decode cX10_itemAs 142 = .ok (.iconst 1, 1) := by decide +kernel
theorem dX10_itemAs_143 : decode cX10_itemAs 143 = .ok (.isub, 1) := by decide +kernel
theorem dX10_itemAs_144 : decode cX10_itemAs 144 = .ok (.i2l, 1) := by decide +kernel
theorem dX10_itemAs_145 : decode cX10_itemAs 145 = .ok (.invokestatic 175, 3) := by decide +kernel
theorem dX10_itemAs_148 : decode cX10_itemAs 148 = .ok (.ifCond .ne 6, 3) := by decide +kernel
theorem dX10_itemAs_154 : decode cX10_itemAs 154 = .ok (.aload_n 0, 1) := by decide +kernel
theorem dX10_itemAs_155 : decode cX10_itemAs 155 = .ok (.getfield 88, 3) := by decide +kernel
theorem dX10_itemAs_158 : decode cX10_itemAs 158 = .ok (.iload_n 1, 1) := by decide +kernel
theorem dX10_itemAs_159 : decode cX10_itemAs 159 = .ok (.iaload, 1) := by decide +kernel
theorem dX10_itemAs_160 : decode cX10_itemAs 160 = .ok (.istore 7, 2) := by decide +kernel
theorem dX10_itemAs_162 : decode cX10_itemAs 162 = .ok (.iconst 0, 1) := by decide +kernel
theorem dX10_itemAs_163 : decode cX10_itemAs 163 = .ok (.istore 8, 2) := by decide +kernel
theorem dX10_itemAs_151 : decode cX10_itemAs 151 = .ok (.bipush (-12), 2) := by decide +kernel
theorem dX10_itemAs_153 : decode cX10_itemAs 153 = .ok (.ireturn, 1) := by decide +kernel
theorem dX10_itemAs_130 : decode cX10_itemAs 130 = .ok (.bipush (-11), 2) := by decide +kernel
theorem dX10_itemAs_132 : decode cX10_itemAs 132 = .ok (.ireturn, 1) := by decide +kernel
theorem dX10_itemAs_0 : decode cX10_itemAs 0 = .ok (.aload_n 0, 1) := by decide +kernel
theorem dX10_itemAs_1 : decode cX10_itemAs 1 = .ok (.getfield 211, 3) := by decide +kernel
theorem dX10_itemAs_4 : decode cX10_itemAs 4 = .ok (.iconst 1, 1) := by decide +kernel
theorem dX10_itemAs_5 : decode cX10_itemAs 5 = .ok (.if_icmp .eq 6, 3) := by decide +kernel
theorem dX10_itemAs_11 : decode cX10_itemAs 11 = .ok (.iload_n 1, 1) := by decide +kernel
theorem dX10_itemAs_12 : decode cX10_itemAs 12 = .ok (.i2l, 1) := by decide +kernel
theorem dX10_itemAs_13 : decode cX10_itemAs 13 = .ok (.lconst 0, 1) := by decide +kernel
theorem dX10_itemAs_14 : decode cX10_itemAs 14 = .ok (.aload_n 0, 1) := by decide +kernel
theorem dX10_itemAs_15 : decode cX10_itemAs 15 = .ok (.getfield 281, 3) := by decide +kernel
theorem dX10_itemAs_18 : decode cX10_itemAs 18 = .ok (.iconst 1, 1) := by decide +kernel
theorem dX10_itemAs_19 : decode cX10_itemAs 19 = .ok (.isub, 1) := by decide +kernel
theorem dX10_itemAs_20 : decode cX10_itemAs 20 = .ok (.i2l, 1) := by decide +kernel
theorem dX10_itemAs_21 : decode cX10_itemAs 21 = .ok (.invokestatic 175, 3) := by decide +kernel
theorem dX10_itemAs_24 : decode cX10_itemAs 24 = .ok (.ifCond .ne 5, 3) := by decide +kernel
theorem dX10_itemAs_29 : decode cX10_itemAs 29 = .ok (.iload_n 2, 1) := by decide +kernel
theorem dX10_itemAs_30 : decode cX10_itemAs 30 = .ok (.i2l, 1) := by decide +kernel
theorem dX10_itemAs_31 : decode cX10_itemAs 31 = .ok (.lconst 0, 1) := by decide +kernel
theorem dX10_itemAs_32 : decode cX10_itemAs 32 = .ok (.ldc2_w 367, 3) := by decide +kernel
theorem dX10_itemAs_35 : decode cX10_itemAs 35 = .ok (.invokestatic 175, 3) := by decide +kernel
theorem dX10_itemAs_38 : decode cX10_itemAs 38 = .ok (.ifCond .ne 6, 3) := by decide +kernel
theorem dX10_itemAs_44 : decode cX10_itemAs 44 = .ok (.aload_n 0, 1) := by decide +kernel
theorem dX10_itemAs_45 : decode cX10_itemAs 45 = .ok (.getfield 73, 3) := by decide +kernel
theorem dX10_itemAs_48 : decode cX10_itemAs 48 = .ok (.iload_n 1, 1) := by decide +kernel
theorem dX10_itemAs_49 : decode cX10_itemAs 49 = .ok (.iaload, 1) := by decide +kernel
theorem dX10_itemAs_50 : decode cX10_itemAs 50 = .ok (.istore 4, 2) := by decide +kernel
theorem dX10_itemAs_52 : decode cX10_itemAs 52 = .ok (.iload 4, 2) := by decide +kernel
theorem dX10_itemAs_54 : decode cX10_itemAs 54 = .ok (.iconst 2, 1) := by decide +kernel
theorem dX10_itemAs_55 : decode cX10_itemAs 55 = .ok (.if_icmp .eq 15, 3) := by decide +kernel
theorem dX10_itemAs_70 : decode cX10_itemAs 70 = .ok (.iconst 1, 1) := by decide +kernel
theorem dX10_itemAs_71 : decode cX10_itemAs 71 = .ok (.goto 4, 3) := by decide +kernel
theorem dX10_itemAs_75 : decode cX10_itemAs 75 = .ok (.istore 5, 2) := by decide +kernel
theorem dX10_itemAs_77 : decode cX10_itemAs 77 = .ok (.iload_n 2, 1) := by decide +kernel
theorem dX10_itemAs_78 : decode cX10_itemAs 78 = .ok (.ifCond .eq 40, 3) := by decide +kernel
theorem dX10_itemAs_118 : decode cX10_itemAs 118 = .ok (.iconst 1, 1) := by decide +kernel
theorem dX10_itemAs_119 : decode cX10_itemAs 119 = .ok (.goto 4, 3) := by decide +kernel
theorem dX10_itemAs_123 : decode cX10_itemAs 123 = .ok (.istore 6, 2) := by decide +kernel
theorem dX10_itemAs_81 : decode cX10_itemAs 81 = .ok (.iload_n 2, 1) := by decide +kernel
theorem dX10_itemAs_82 : decode cX10_itemAs 82 = .ok (.iconst 1, 1) := by decide +kernel
theorem dX10_itemAs_83 : decode cX10_itemAs 83 = .ok (.if_icmp .ne 14, 3) := by decide +kernel
theorem dX10_itemAs_97 : decode cX10_itemAs 97 = .ok (.iload_n 2, 1) := by decide +kernel
theorem dX10_itemAs_98 : decode cX10_itemAs 98 = .ok (.iconst 2, 1) := by decide +kernel
theorem dX10_itemAs_99 : decode cX10_itemAs 99 = .ok (.if_icmp .ne 8, 3) := by decide +kernel
theorem dX10_itemAs_107 : decode cX10_itemAs 107 = .ok (.iload_n 2, 1) := by decide +kernel
theorem dX10_itemAs_108 : decode cX10_itemAs 108 = .ok (.iconst 2, 1) := by decide +kernel
theorem dX10_itemAs_109 : decode cX10_itemAs 109 = .ok (.if_icmp .le 13, 3) := by decide +kernel
theorem dX10_itemAs_122 : decode cX10_itemAs 122 = .ok (.iconst 0, 1) := by decide +kernel
theorem dX10_itemAs_112 : decode cX10_itemAs 112 = .ok (.iload 4, 2) := by decide +kernel
theorem dX10_itemAs_114 : decode cX10_itemAs 114 = .ok (.iload_n 2, 1) := by decide +kernel
theorem dX10_itemAs_115 : decode cX10_itemAs 115 = .ok (.if_icmp .ne 7, 3) := by decide +kernel
theorem dX10_itemAs_102 : decode cX10_itemAs 102 = .ok (.iload 5, 2) := by decide +kernel
theorem dX10_itemAs_104 : decode cX10_itemAs 104 = .ok (.ifCond .ne 14, 3) := by decide +kernel
theorem dX10_itemAs_86 : decode cX10_itemAs 86 = .ok (.iload 4, 2) := by decide +kernel
theorem dX10_itemAs_88 : decode cX10_itemAs 88 = .ok (.iconst 1, 1) := by decide +kernel
theorem dX10_itemAs_89 : decode cX10_itemAs 89 = .ok (.if_icmp .eq 29, 3) := by decide +kernel
theorem dX10_itemAs_92 : decode cX10_itemAs 92 = .ok (.iload 5, 2) := by decide +kernel
theorem dX10_itemAs_94 : decode cX10_itemAs 94 = .ok (.ifCond .ne 24, 3) := by decide +kernel
theorem dX10_itemAs_58 : decode cX10_itemAs 58 = .ok (.iload 4, 2) := by decide +kernel
theorem dX10_itemAs_60 : decode cX10_itemAs 60 = .ok (.iconst 3, 1) := by decide +kernel
theorem dX10_itemAs_61 : decode cX10_itemAs 61 = .ok (.if_icmp .eq 9, 3) := by decide +kernel
theorem dX10_itemAs_64 : decode cX10_itemAs 64 = .ok (.iload 4, 2) := by decide +kernel
theorem dX10_itemAs_66 : decode cX10_itemAs 66 = .ok (.iconst 5, 1) := by decide +kernel
theorem dX10_itemAs_67 : decode cX10_itemAs 67 = .ok (.if_icmp .ne 7, 3) := by decide +kernel
theorem dX10_itemAs_74 : decode cX10_itemAs 74 = .ok (.iconst 0, 1) := by decide +kernel
theorem dX10_itemAs_41 : decode cX10_itemAs 41 = .ok (.bipush (-2), 2) := by decide +kernel
theorem dX10_itemAs_43 : decode cX10_itemAs 43 = .ok (.ireturn, 1) := by decide +kernel
theorem dX10_itemAs_27 : decode cX10_itemAs 27 = .ok (.iconst (-1), 1) := by decide +kernel
theorem dX10_itemAs_28 : decode cX10_itemAs 28 = .ok (.ireturn, 1) := by decide +kernel
theorem dX10_itemAs_8 : decode cX10_itemAs 8 = .ok (.bipush (-3), 2) := by decide +kernel
theorem dX10_itemAs_10 : decode cX10_itemAs 10 = .ok (.ireturn, 1) := by decide +kernel
set_option maxHeartbeats 4000000 in
set_option maxRecDepth 100000 in
theorem m_part (l : Launch) (D : va_G) (tA : Nat → ClassId) (b : Nat) (i F : Nat → Nat → Int32) (G : Nat → Nat → Int64) (x y : Int32) (hI : IMm i F) : xMI l yX10_part cX10_part 5 (some .int) 1 25 D tA b 78 52 i F G [.ref (b + 78), .int x, .int y] (fun r u => u = (i, F, G) ∧ True) := by
  refine xstart RX10 rfl (by decide) (Nat.le_of_ble_eq_true rfl) ?_
  intro p e s m below meth c ls C0 hr hH hS hl
  have hl : lv_has ls 5 [(0, .ref (b + 78)), (1, .int x), (2, .int y)] := hl
  have rg_x := fb_rng x
  have rg_y := fb_rng y
  have hI0 := hI
  obtain ⟨hsz, hbt, hks, hsrc, hTK, hCB, hWA, hwr, hmk, hG, hKA, hKI⟩ := hI0
  have hTKl := hTK.1
  have L60 : ∀ (d : Nat) (k p_ : Int32) (np : Nat) (po pr : Nat → Nat) (H : Heap) (locs : List Loc) (ls : Array Slot), (0 ≤ k.toInt ∧ k.toInt ≤ y.toInt) → (y.toInt - k.toInt ≤ d) → (np ≤ 1802) → (0 ≤ p_.toInt ∧ p_.toInt < np) → (po (Int32.toNatClampNeg p_) = Int32.toNatClampNeg x) → ((pr (Int32.toNatClampNeg p_) : Int) = k.toInt) → (∀ q, q < np → okN F np po pr q) → (y.toInt < (F 108 (Int32.toNatClampNeg x)).toInt) → Hd D tA b 78 52 zz i F G H → va_S (xA b 78 52) s.heap H locs → lv_has ls 5 [(4, .int k), (3, .int p_), (0, .ref (b + 78)), (1, .int x), (2, .int y)] → W p l e (xR 1 25) s m ([.ref (b + 78), .int x, .int y] : List Value).toArray below meth c H locs 0 0 (MQ below (va_Qi (fun r u => u = (i, F, G) ∧ True) (xB D tA b 78 52 zz) (xA b 78 52)) ([.ref (b + 78), .int x, .int y] : List Value).toArray s 0 0 (xA b 78 52)) (F0 m 60 ls []) := by
    intro d
    induction d with
    | zero =>
      intro k p_ np po pr H locs ls h1 h2 h3 h4 h5 h6 h7 h8 hH hS hl
      have rg_k := fb_rng k
      have rg_p_ := fb_rng p_
      refine lv_iload (pc := 60) C0.1 C0.2.1 dX10_part_60 (lv_at hl 0 rfl) ?_
      refine lv_iload_n (pc := 62) C0.1 C0.2.1 dX10_part_62 rfl (lv_at hl 4 rfl) ?_
      refine lv_icmp_ge (pc := 63) (tgt := 79) C0.1 C0.2.1 dX10_part_63 (by decide) (fun _ => ?_) (fun c => absurd (Int32.le_iff_toInt_le.mpr (by omega)) c)
      refine lv_aload_n (pc := 79) C0.1 C0.2.1 dX10_part_79 rfl (lv_at hl 2 rfl) ?_
      refine xget (pc := 80) C0 hH 78 48 clX10 ⟨Nat.le_of_ble_eq_true rfl, Nat.le_of_ble_eq_true rfl⟩ ⟨rfl, rfl⟩ (Nat.le_of_ble_eq_true rfl) fl_X10_112 (v := .ref (b + 111)) rfl dX10_part_80 ?_
      refine lv_iload_n (pc := 83) C0.1 C0.2.1 dX10_part_83 rfl (lv_at hl 1 rfl) ?_
      refine xiald (pc := 84) (N := 1802) C0 hH 111 ⟨Nat.le_of_ble_eq_true rfl, Nat.le_of_ble_eq_true rfl⟩ ⟨rfl, rfl⟩ (vI (by omega) (by omega)) dX10_part_84 ?_
      exact xiret (pc := 85) C0 hr hH hS dX10_part_85 ⟨rfl, trivial⟩
    | succ d ih60 =>
      intro k p_ np po pr H locs ls h1 h2 h3 h4 h5 h6 h7 h8 hH hS hl
      have rg_k := fb_rng k
      have rg_p_ := fb_rng p_
      refine lv_iload (pc := 60) C0.1 C0.2.1 dX10_part_60 (lv_at hl 0 rfl) ?_
      refine lv_iload_n (pc := 62) C0.1 C0.2.1 dX10_part_62 rfl (lv_at hl 4 rfl) ?_
      refine lv_icmp_ge (pc := 63) (tgt := 79) C0.1 C0.2.1 dX10_part_63 (by decide) (fun c201 => ?_) (fun c201 => ?_)
      · have c201 := Int32.le_iff_toInt_le.mp c201
        refine lv_aload_n (pc := 79) C0.1 C0.2.1 dX10_part_79 rfl (lv_at hl 2 rfl) ?_
        refine xget (pc := 80) C0 hH 78 48 clX10 ⟨Nat.le_of_ble_eq_true rfl, Nat.le_of_ble_eq_true rfl⟩ ⟨rfl, rfl⟩ (Nat.le_of_ble_eq_true rfl) fl_X10_112 (v := .ref (b + 111)) rfl dX10_part_80 ?_
        refine lv_iload_n (pc := 83) C0.1 C0.2.1 dX10_part_83 rfl (lv_at hl 1 rfl) ?_
        refine xiald (pc := 84) (N := 1802) C0 hH 111 ⟨Nat.le_of_ble_eq_true rfl, Nat.le_of_ble_eq_true rfl⟩ ⟨rfl, rfl⟩ (vI (by omega) (by omega)) dX10_part_84 ?_
        exact xiret (pc := 85) C0 hr hH hS dX10_part_85 ⟨rfl, trivial⟩
      · have c201 : ¬ _ := fun q => c201 (Int32.le_iff_toInt_le.mpr q)
        have cp := clI (x := p_) (by omega)
        have hnx := okN.nx (y := y) (x := x) (h7 (Int32.toNatClampNeg p_) (by omega)) h5 h6 (by omega) h8
        refine lv_aload_n (pc := 66) C0.1 C0.2.1 dX10_part_66 rfl (lv_at hl 2 rfl) ?_
        refine xget (pc := 67) C0 hH 78 49 clX10 ⟨Nat.le_of_ble_eq_true rfl, Nat.le_of_ble_eq_true rfl⟩ ⟨rfl, rfl⟩ (Nat.le_of_ble_eq_true rfl) fl_X10_115 (v := .ref (b + 112)) rfl dX10_part_67 ?_
        refine lv_iload_n (pc := 70) C0.1 C0.2.1 dX10_part_70 rfl (lv_at hl 1 rfl) ?_
        refine xiald (pc := 71) (N := 1802) C0 hH 112 ⟨Nat.le_of_ble_eq_true rfl, Nat.le_of_ble_eq_true rfl⟩ ⟨rfl, rfl⟩ (vI (by omega) (by omega)) dX10_part_71 ?_
        refine lv_topi (fun x202 ex202 => ?_)
        refine lv_istore_n (pc := 72) (lv' := [(3, .int x202), (4, .int k), (0, .ref (b + 78)), (1, .int x), (2, .int y)]) C0.1 C0.2.1 dX10_part_72 rfl hl (by decide) rfl (fun ls hl => ?_)
        obtain ⟨x203, ex203⟩ : ∃ y_ : Int32, y_ = k + 1 := ⟨_, rfl⟩
        have : Int32.toInt 1 = 1 := rfl
        have hx203 : Int32.toInt x203 = Int32.toInt k + Int32.toInt 1 := by rw [ex203]; exact fb_addI (by omega) (by omega)
        refine lv_iinc (pc := 73) (v := x203) (lv' := [(4, .int x203), (3, .int x202), (0, .ref (b + 78)), (1, .int x), (2, .int y)]) C0.1 C0.2.1 dX10_part_73 hl (k := 1) rfl (by rw [ex203]; rfl) (by decide) rfl (fun ls hl => ?_)
        refine lv_goto (pc := 76) (tgt := 60) C0.1 C0.2.1 dX10_part_76 (by decide) ?_
        exact ih60 x203 x202 np po pr _ _ _ (by omega) (by omega) h3 (by rw [ex202]; exact hnx.1) (by rw [ex202]; exact hnx.2.1) (by rw [ex202]; omega) h7 h8 hH hS (lv_sub hl [0, 1, 2, 3, 4] rfl)
  refine lv_aload_n (pc := 0) C0.1 C0.2.1 dX10_part_0 rfl (lv_at hl 0 rfl) ?_
  refine xget (pc := 1) C0 hH 78 15 clX10 ⟨Nat.le_of_ble_eq_true rfl, Nat.le_of_ble_eq_true rfl⟩ ⟨rfl, rfl⟩ (Nat.le_of_ble_eq_true rfl) fl_X10_211 (v := .int (i 78 15)) rfl dX10_part_1 ?_
  refine lv_iconst (pc := 4) (v := 1) C0.1 C0.2.1 dX10_part_4 (by decide) ?_
  refine lv_icmp_eq (pc := 5) (tgt := 11) C0.1 C0.2.1 dX10_part_5 (by decide) (fun c1 => ?_) (fun c1 => ?_)
  · have : Int32.toInt 1 = 1 := rfl
    have c1 := congrArg Int32.toInt c1
    have hGT := hG (by have : Int32.toInt 1 = 1 := rfl; omega)
    have hGl := GTm.lin hGT
    have hz := hGT.2.1
    refine lv_iload_n (pc := 11) C0.1 C0.2.1 dX10_part_11 rfl (lv_at hl 1 rfl) ?_
    refine lv_i2l (pc := 12) (v := x.toInt64) C0.1 C0.2.1 dX10_part_12 rfl ?_
    refine lv_lconst (pc := 13) (v := 0) C0.1 C0.2.1 dX10_part_13 (by decide) ?_
    refine lv_aload_n (pc := 14) C0.1 C0.2.1 dX10_part_14 rfl (lv_at hl 0 rfl) ?_
    refine xget (pc := 15) C0 hH 78 40 clX10 ⟨Nat.le_of_ble_eq_true rfl, Nat.le_of_ble_eq_true rfl⟩ ⟨rfl, rfl⟩ (Nat.le_of_ble_eq_true rfl) fl_X10_287 (v := .int (i 78 40)) rfl dX10_part_15 ?_
    refine lv_iconst (pc := 18) (v := 1) C0.1 C0.2.1 dX10_part_18 (by decide) ?_
    have : Int32.toInt 1 = 1 := rfl
    refine lv_isub (pc := 19) C0.1 C0.2.1 dX10_part_19 ?_
    refine lv_topi (fun x2 ex2 => ?_)
    have hx2 : Int32.toInt x2 = Int32.toInt (i 78 40) - Int32.toInt 1 := by rw [ex2]; exact fb_subI (by omega) (by omega)
    refine lv_i2l (pc := 20) (v := x2.toInt64) C0.1 C0.2.1 dX10_part_20 rfl ?_
    refine xcSI (pc := 21) [.long x.toInt64, .long 0, .long x2.toInt64] (c_X10_in l D tA b 78 52 i F G x.toInt64 0 x2.toInt64) C0 hH hS cw_X10_175 rfl ⟨Nat.le_of_ble_eq_true rfl, Nat.le_of_ble_eq_true rfl⟩ hl.1 rfl (Nat.le_of_ble_eq_true rfl) dX10_part_21 ⟨Nat.le_of_ble_eq_true rfl, Nat.le_of_ble_eq_true rfl⟩ (fun r3 ir3 Fr3 Gr3 _ locs hp hH hS => ?_)
    obtain ⟨hu, rfl⟩ := hp
    cases hu
    refine lv_if_ne (pc := 24) (tgt := 29) C0.1 C0.2.1 dX10_part_24 (by decide) (fun c4 => ?_) (fun c4 => ?_)
    · have : Int64.toInt 0 = 0 := rfl
      have : Int64.toInt (x2.toInt64) = Int32.toInt x2 := Int32.toInt_toInt64 _
      have c4 := in_1i c4
      refine lv_iload_n (pc := 29) C0.1 C0.2.1 dX10_part_29 rfl (lv_at hl 2 rfl) ?_
      refine lv_i2l (pc := 30) (v := y.toInt64) C0.1 C0.2.1 dX10_part_30 rfl ?_
      refine lv_lconst (pc := 31) (v := 0) C0.1 C0.2.1 dX10_part_31 (by decide) ?_
      refine lv_aload_n (pc := 32) C0.1 C0.2.1 dX10_part_32 rfl (lv_at hl 0 rfl) ?_
      have hQx := GTm.q8 hGT (x := x) (by omega)
      refine xget (pc := 33) C0 hH 78 44 clX10 ⟨Nat.le_of_ble_eq_true rfl, Nat.le_of_ble_eq_true rfl⟩ ⟨rfl, rfl⟩ (Nat.le_of_ble_eq_true rfl) fl_X10_103 (v := .ref (b + 108)) rfl dX10_part_33 ?_
      refine lv_iload_n (pc := 36) C0.1 C0.2.1 dX10_part_36 rfl (lv_at hl 1 rfl) ?_
      refine xiald (pc := 37) (N := 1202) C0 hH 108 ⟨Nat.le_of_ble_eq_true rfl, Nat.le_of_ble_eq_true rfl⟩ ⟨rfl, rfl⟩ (vI (by omega) (by omega)) dX10_part_37 ?_
      refine lv_iconst (pc := 38) (v := 1) C0.1 C0.2.1 dX10_part_38 (by decide) ?_
      have : Int32.toInt 1 = 1 := rfl
      refine lv_isub (pc := 39) C0.1 C0.2.1 dX10_part_39 ?_
      refine lv_topi (fun x5 ex5 => ?_)
      have hx5 : Int32.toInt x5 = Int32.toInt (F 108 (Int32.toNatClampNeg x)) - Int32.toInt 1 := by rw [ex5]; exact fb_subI (by omega) (by omega)
      refine lv_i2l (pc := 40) (v := x5.toInt64) C0.1 C0.2.1 dX10_part_40 rfl ?_
      refine xcSI (pc := 41) [.long y.toInt64, .long 0, .long x5.toInt64] (c_X10_in l D tA b 78 52 i F G y.toInt64 0 x5.toInt64) C0 hH hS cw_X10_175 rfl ⟨Nat.le_of_ble_eq_true rfl, Nat.le_of_ble_eq_true rfl⟩ hl.1 rfl (Nat.le_of_ble_eq_true rfl) dX10_part_41 ⟨Nat.le_of_ble_eq_true rfl, Nat.le_of_ble_eq_true rfl⟩ (fun r6 ir6 Fr6 Gr6 _ locs hp hH hS => ?_)
      obtain ⟨hu, rfl⟩ := hp
      cases hu
      refine lv_if_ne (pc := 44) (tgt := 50) C0.1 C0.2.1 dX10_part_44 (by decide) (fun c7 => ?_) (fun c7 => ?_)
      · have : Int64.toInt 0 = 0 := rfl
        have : Int64.toInt (x5.toInt64) = Int32.toInt x5 := Int32.toInt_toInt64 _
        have c7 := in_1i c7
        obtain ⟨np, po, pr, hnp, hf1, hf2, hf3, hokN⟩ := GTm.pt hGT (x := x) (by omega) (by omega)
        refine lv_aload_n (pc := 50) C0.1 C0.2.1 dX10_part_50 rfl (lv_at hl 0 rfl) ?_
        refine xget (pc := 51) C0 hH 78 45 clX10 ⟨Nat.le_of_ble_eq_true rfl, Nat.le_of_ble_eq_true rfl⟩ ⟨rfl, rfl⟩ (Nat.le_of_ble_eq_true rfl) fl_X10_106 (v := .ref (b + 109)) rfl dX10_part_51 ?_
        refine lv_iload_n (pc := 54) C0.1 C0.2.1 dX10_part_54 rfl (lv_at hl 1 rfl) ?_
        refine xiald (pc := 55) (N := 1202) C0 hH 109 ⟨Nat.le_of_ble_eq_true rfl, Nat.le_of_ble_eq_true rfl⟩ ⟨rfl, rfl⟩ (vI (by omega) (by omega)) dX10_part_55 ?_
        refine lv_topi (fun x8 ex8 => ?_)
        refine lv_istore_n (pc := 56) (lv' := [(3, .int x8), (0, .ref (b + 78)), (1, .int x), (2, .int y)]) C0.1 C0.2.1 dX10_part_56 rfl hl (by decide) rfl (fun ls hl => ?_)
        refine lv_iconst (pc := 57) (v := 0) C0.1 C0.2.1 dX10_part_57 (by decide) ?_
        refine lv_istore (pc := 58) (lv' := [(4, .int 0), (3, .int x8), (0, .ref (b + 78)), (1, .int x), (2, .int y)]) C0.1 C0.2.1 dX10_part_58 hl (by decide) rfl (fun ls hl => ?_)
        exact L60 (y.toInt).toNat 0 x8 np po pr _ _ _ (by have : Int32.toInt 0 = 0 := rfl; omega) (by have : Int32.toInt 0 = 0 := rfl; omega) hnp (by rw [ex8]; exact hf1) (by rw [ex8]; exact hf2) (by rw [ex8]; exact hf3) hokN (by omega) hH hS (lv_sub hl [0, 1, 2, 3, 4] rfl)
      · have : Int64.toInt 0 = 0 := rfl
        have : Int64.toInt (x5.toInt64) = Int32.toInt x5 := Int32.toInt_toInt64 _
        have c7 := in_0i c7
        refine lv_bipush (pc := 47) (v := (-12)) C0.1 C0.2.1 dX10_part_47 (by decide) ?_
        exact xiret (pc := 49) C0 hr hH hS dX10_part_49 ⟨rfl, trivial⟩
    · have : Int64.toInt 0 = 0 := rfl
      have : Int64.toInt (x2.toInt64) = Int32.toInt x2 := Int32.toInt_toInt64 _
      have c4 := in_0i c4
      refine lv_iconst (pc := 27) (v := (-1)) C0.1 C0.2.1 dX10_part_27 (by decide) ?_
      exact xiret (pc := 28) C0 hr hH hS dX10_part_28 ⟨rfl, trivial⟩
  · have : Int32.toInt 1 = 1 := rfl
    have c1 : ¬ _ := fun q => c1 (Int32.toInt_inj.mp q)
    refine lv_bipush (pc := 8) (v := (-3)) C0.1 C0.2.1 dX10_part_8 (by decide) ?_
    exact xiret (pc := 10) C0 hr hH hS dX10_part_10 ⟨rfl, trivial⟩
set_option maxHeartbeats 4000000 in
set_option maxRecDepth 100000 in
theorem m_itemAs (l : Launch) (D : va_G) (tA : Nat → ClassId) (b : Nat) (i F : Nat → Nat → Int32) (G : Nat → Nat → Int64) (x y z : Int32) (hI : IMm i F) : xMI l yX10_itemAs cX10_itemAs 9 (some .int) 1 25 D tA b 78 52 i F G [.ref (b + 78), .int x, .int y, .int z] (fun r u => u = (i, F, G) ∧ True) := by
  refine xstart RX10 rfl (by decide) (Nat.le_of_ble_eq_true rfl) ?_
  intro p e s m below meth c ls C0 hr hH hS hl
  have hl : lv_has ls 9 [(0, .ref (b + 78)), (1, .int x), (2, .int y), (3, .int z)] := hl
  have rg_x := fb_rng x
  have rg_y := fb_rng y
  have rg_z := fb_rng z
  have hI0 := hI
  obtain ⟨hsz, hbt, hks, hsrc, hTK, hCB, hWA, hwr, hmk, hG, hKA, hKI⟩ := hI0
  have hTKl := hTK.1
  have L165 : ∀ (d : Nat) (k p_ : Int32) (nb ni : Nat) (H : Heap) (locs : List Loc) (ls : Array Slot), (0 ≤ k.toInt ∧ k.toInt ≤ z.toInt) → (z.toInt - k.toInt ≤ d) → (ni ≤ 1202) → (0 ≤ p_.toInt ∧ p_.toInt < ni) → (F 105 (Int32.toNatClampNeg p_) = x) → ((F 106 (Int32.toNatClampNeg p_)).toInt = k.toInt) → (∀ q, q < ni → okI F nb ni q) → (z.toInt < (F 102 (Int32.toNatClampNeg x)).toInt) → Hd D tA b 78 52 zz i F G H → va_S (xA b 78 52) s.heap H locs → lv_has ls 9 [(8, .int k), (7, .int p_), (0, .ref (b + 78)), (1, .int x), (2, .int y), (3, .int z)] → W p l e (xR 1 25) s m ([.ref (b + 78), .int x, .int y, .int z] : List Value).toArray below meth c H locs 0 0 (MQ below (va_Qi (fun r u => u = (i, F, G) ∧ True) (xB D tA b 78 52 zz) (xA b 78 52)) ([.ref (b + 78), .int x, .int y, .int z] : List Value).toArray s 0 0 (xA b 78 52)) (F0 m 165 ls []) := by
    intro d
    induction d with
    | zero =>
      intro k p_ nb ni H locs ls h1 h2 h3 h4 h5 h6 h7 h8 hH hS hl
      have rg_k := fb_rng k
      have rg_p_ := fb_rng p_
      refine lv_iload (pc := 165) C0.1 C0.2.1 dX10_itemAs_165 (lv_at hl 0 rfl) ?_
      refine lv_iload_n (pc := 167) C0.1 C0.2.1 dX10_itemAs_167 rfl (lv_at hl 5 rfl) ?_
      refine lv_icmp_ge (pc := 168) (tgt := 186) C0.1 C0.2.1 dX10_itemAs_168 (by decide) (fun _ => ?_) (fun c => absurd (Int32.le_iff_toInt_le.mpr (by omega)) c)
      refine lv_iload (pc := 186) C0.1 C0.2.1 dX10_itemAs_186 (lv_at hl 1 rfl) ?_
      exact xiret (pc := 188) C0 hr hH hS dX10_itemAs_188 ⟨rfl, trivial⟩
    | succ d ih165 =>
      intro k p_ nb ni H locs ls h1 h2 h3 h4 h5 h6 h7 h8 hH hS hl
      have rg_k := fb_rng k
      have rg_p_ := fb_rng p_
      refine lv_iload (pc := 165) C0.1 C0.2.1 dX10_itemAs_165 (lv_at hl 0 rfl) ?_
      refine lv_iload_n (pc := 167) C0.1 C0.2.1 dX10_itemAs_167 rfl (lv_at hl 5 rfl) ?_
      refine lv_icmp_ge (pc := 168) (tgt := 186) C0.1 C0.2.1 dX10_itemAs_168 (by decide) (fun c201 => ?_) (fun c201 => ?_)
      · have c201 := Int32.le_iff_toInt_le.mp c201
        refine lv_iload (pc := 186) C0.1 C0.2.1 dX10_itemAs_186 (lv_at hl 1 rfl) ?_
        exact xiret (pc := 188) C0 hr hH hS dX10_itemAs_188 ⟨rfl, trivial⟩
      · have c201 : ¬ _ := fun q => c201 (Int32.le_iff_toInt_le.mpr q)
        have cp := clI (x := p_) (by omega)
        have hnx := okI.nx (y := z) (x := x) (h7 (Int32.toNatClampNeg p_) (by omega)) h5 h6 (by omega) h8
        refine lv_aload_n (pc := 171) C0.1 C0.2.1 dX10_itemAs_171 rfl (lv_at hl 2 rfl) ?_
        refine xget (pc := 172) C0 hH 78 43 clX10 ⟨Nat.le_of_ble_eq_true rfl, Nat.le_of_ble_eq_true rfl⟩ ⟨rfl, rfl⟩ (Nat.le_of_ble_eq_true rfl) fl_X10_100 (v := .ref (b + 107)) rfl dX10_itemAs_172 ?_
        refine lv_iload (pc := 175) C0.1 C0.2.1 dX10_itemAs_175 (lv_at hl 1 rfl) ?_
        refine xiald (pc := 177) (N := 1202) C0 hH 107 ⟨Nat.le_of_ble_eq_true rfl, Nat.le_of_ble_eq_true rfl⟩ ⟨rfl, rfl⟩ (vI (by omega) (by omega)) dX10_itemAs_177 ?_
        refine lv_topi (fun x202 ex202 => ?_)
        refine lv_istore (pc := 178) (lv' := [(7, .int x202), (8, .int k), (0, .ref (b + 78)), (1, .int x), (2, .int y), (3, .int z)]) C0.1 C0.2.1 dX10_itemAs_178 hl (by decide) rfl (fun ls hl => ?_)
        obtain ⟨x203, ex203⟩ : ∃ y_ : Int32, y_ = k + 1 := ⟨_, rfl⟩
        have : Int32.toInt 1 = 1 := rfl
        have hx203 : Int32.toInt x203 = Int32.toInt k + Int32.toInt 1 := by rw [ex203]; exact fb_addI (by omega) (by omega)
        refine lv_iinc (pc := 180) (v := x203) (lv' := [(8, .int x203), (7, .int x202), (0, .ref (b + 78)), (1, .int x), (2, .int y), (3, .int z)]) C0.1 C0.2.1 dX10_itemAs_180 hl (k := 1) rfl (by rw [ex203]; rfl) (by decide) rfl (fun ls hl => ?_)
        refine lv_goto (pc := 183) (tgt := 165) C0.1 C0.2.1 dX10_itemAs_183 (by decide) ?_
        exact ih165 x203 x202 nb ni _ _ _ (by omega) (by omega) h3 (by rw [ex202]; exact hnx.1) (by rw [ex202]; exact hnx.2.1) (by rw [ex202]; omega) h7 h8 hH hS (lv_sub hl [0, 1, 2, 3, 4, 5] rfl)
  have L125 : ∀ (d : Nat) (gg is_ hh : Int32) (H : Heap) (locs : List Loc) (ls : Array Slot), ((i 78 15).toInt = 1) → (0 ≤ x.toInt ∧ x.toInt < (i 78 32).toInt) → Hd D tA b 78 52 zz i F G H → va_S (xA b 78 52) s.heap H locs → lv_has ls 9 [(6, .int gg), (0, .ref (b + 78)), (1, .int x), (2, .int y), (3, .int z)] → W p l e (xR 1 25) s m ([.ref (b + 78), .int x, .int y, .int z] : List Value).toArray below meth c H locs 0 0 (MQ below (va_Qi (fun r u => u = (i, F, G) ∧ True) (xB D tA b 78 52 zz) (xA b 78 52)) ([.ref (b + 78), .int x, .int y, .int z] : List Value).toArray s 0 0 (xA b 78 52)) (F0 m 125 ls []) := by
    intro d
    intro gg is_ hh H locs ls h1 h2 hH hS hl
    have rg_gg := fb_rng gg
    have rg_is_ := fb_rng is_
    have rg_hh := fb_rng hh
    have hGT := hG h1
    have hGl := GTm.lin hGT
    have hBx := GTm.b2 hGT (x := x) h2
    refine lv_iload (pc := 125) C0.1 C0.2.1 dX10_itemAs_125 (lv_at hl 0 rfl) ?_
    refine lv_if_ne (pc := 127) (tgt := 133) C0.1 C0.2.1 dX10_itemAs_127 (by decide) (fun c201 => ?_) (fun c201 => ?_)
    · have : Int32.toInt 0 = 0 := rfl
      have c201 : ¬ _ := fun q => c201 (Int32.toInt_inj.mp q)
      refine lv_iload_n (pc := 133) C0.1 C0.2.1 dX10_itemAs_133 rfl (lv_at hl 4 rfl) ?_
      refine lv_i2l (pc := 134) (v := z.toInt64) C0.1 C0.2.1 dX10_itemAs_134 rfl ?_
      refine lv_lconst (pc := 135) (v := 0) C0.1 C0.2.1 dX10_itemAs_135 (by decide) ?_
      refine lv_aload_n (pc := 136) C0.1 C0.2.1 dX10_itemAs_136 rfl (lv_at hl 1 rfl) ?_
      refine xget (pc := 137) C0 hH 78 37 clX10 ⟨Nat.le_of_ble_eq_true rfl, Nat.le_of_ble_eq_true rfl⟩ ⟨rfl, rfl⟩ (Nat.le_of_ble_eq_true rfl) fl_X10_85 (v := .ref (b + 102)) rfl dX10_itemAs_137 ?_
      refine lv_iload_n (pc := 140) C0.1 C0.2.1 dX10_itemAs_140 rfl (lv_at hl 2 rfl) ?_
      refine xiald (pc := 141) (N := 1202) C0 hH 102 ⟨Nat.le_of_ble_eq_true rfl, Nat.le_of_ble_eq_true rfl⟩ ⟨rfl, rfl⟩ (vI (by omega) (by omega)) dX10_itemAs_141 ?_
      refine lv_iconst (pc := 142) (v := 1) C0.1 C0.2.1 dX10_itemAs_142 (by decide) ?_
      have : Int32.toInt 1 = 1 := rfl
      refine lv_isub (pc := 143) C0.1 C0.2.1 dX10_itemAs_143 ?_
      refine lv_topi (fun x202 ex202 => ?_)
      have hx202 : Int32.toInt x202 = Int32.toInt (F 102 (Int32.toNatClampNeg x)) - Int32.toInt 1 := by rw [ex202]; exact fb_subI (by omega) (by omega)
      refine lv_i2l (pc := 144) (v := x202.toInt64) C0.1 C0.2.1 dX10_itemAs_144 rfl ?_
      refine xcSI (pc := 145) [.long z.toInt64, .long 0, .long x202.toInt64] (c_X10_in l D tA b 78 52 i F G z.toInt64 0 x202.toInt64) C0 hH hS cw_X10_175 rfl ⟨Nat.le_of_ble_eq_true rfl, Nat.le_of_ble_eq_true rfl⟩ hl.1 rfl (Nat.le_of_ble_eq_true rfl) dX10_itemAs_145 ⟨Nat.le_of_ble_eq_true rfl, Nat.le_of_ble_eq_true rfl⟩ (fun r203 ir203 Fr203 Gr203 _ locs hp hH hS => ?_)
      obtain ⟨hu, rfl⟩ := hp
      cases hu
      refine lv_if_ne (pc := 148) (tgt := 154) C0.1 C0.2.1 dX10_itemAs_148 (by decide) (fun c204 => ?_) (fun c204 => ?_)
      · have : Int64.toInt 0 = 0 := rfl
        have : Int64.toInt (x202.toInt64) = Int32.toInt x202 := Int32.toInt_toInt64 _
        have c204 := in_1i c204
        obtain ⟨nb, ni, hni, hf1, hf2, hf3, hokI⟩ := GTm.it hGT (x := x) (by omega) (by omega)
        refine lv_aload_n (pc := 154) C0.1 C0.2.1 dX10_itemAs_154 rfl (lv_at hl 1 rfl) ?_
        refine xget (pc := 155) C0 hH 78 38 clX10 ⟨Nat.le_of_ble_eq_true rfl, Nat.le_of_ble_eq_true rfl⟩ ⟨rfl, rfl⟩ (Nat.le_of_ble_eq_true rfl) fl_X10_88 (v := .ref (b + 103)) rfl dX10_itemAs_155 ?_
        refine lv_iload_n (pc := 158) C0.1 C0.2.1 dX10_itemAs_158 rfl (lv_at hl 2 rfl) ?_
        refine xiald (pc := 159) (N := 1202) C0 hH 103 ⟨Nat.le_of_ble_eq_true rfl, Nat.le_of_ble_eq_true rfl⟩ ⟨rfl, rfl⟩ (vI (by omega) (by omega)) dX10_itemAs_159 ?_
        refine lv_topi (fun x205 ex205 => ?_)
        refine lv_istore (pc := 160) (lv' := [(7, .int x205), (6, .int gg), (0, .ref (b + 78)), (1, .int x), (2, .int y), (3, .int z)]) C0.1 C0.2.1 dX10_itemAs_160 hl (by decide) rfl (fun ls hl => ?_)
        refine lv_iconst (pc := 162) (v := 0) C0.1 C0.2.1 dX10_itemAs_162 (by decide) ?_
        refine lv_istore (pc := 163) (lv' := [(8, .int 0), (7, .int x205), (6, .int gg), (0, .ref (b + 78)), (1, .int x), (2, .int y), (3, .int z)]) C0.1 C0.2.1 dX10_itemAs_163 hl (by decide) rfl (fun ls hl => ?_)
        exact L165 (z.toInt).toNat 0 x205 nb ni _ _ _ (by have : Int32.toInt 0 = 0 := rfl; omega) (by have : Int32.toInt 0 = 0 := rfl; omega) hni (by rw [ex205]; exact hf1) (by rw [ex205]; exact hf2) (by rw [ex205]; exact hf3) hokI (by omega) hH hS (lv_sub hl [0, 1, 3, 4, 5, 6] rfl)
      · have : Int64.toInt 0 = 0 := rfl
        have : Int64.toInt (x202.toInt64) = Int32.toInt x202 := Int32.toInt_toInt64 _
        have c204 := in_0i c204
        refine lv_bipush (pc := 151) (v := (-12)) C0.1 C0.2.1 dX10_itemAs_151 (by decide) ?_
        exact xiret (pc := 153) C0 hr hH hS dX10_itemAs_153 ⟨rfl, trivial⟩
    · have : Int32.toInt 0 = 0 := rfl
      have c201 := congrArg Int32.toInt c201
      refine lv_bipush (pc := 130) (v := (-11)) C0.1 C0.2.1 dX10_itemAs_130 (by decide) ?_
      exact xiret (pc := 132) C0 hr hH hS dX10_itemAs_132 ⟨rfl, trivial⟩
  refine lv_aload_n (pc := 0) C0.1 C0.2.1 dX10_itemAs_0 rfl (lv_at hl 0 rfl) ?_
  refine xget (pc := 1) C0 hH 78 15 clX10 ⟨Nat.le_of_ble_eq_true rfl, Nat.le_of_ble_eq_true rfl⟩ ⟨rfl, rfl⟩ (Nat.le_of_ble_eq_true rfl) fl_X10_211 (v := .int (i 78 15)) rfl dX10_itemAs_1 ?_
  refine lv_iconst (pc := 4) (v := 1) C0.1 C0.2.1 dX10_itemAs_4 (by decide) ?_
  refine lv_icmp_eq (pc := 5) (tgt := 11) C0.1 C0.2.1 dX10_itemAs_5 (by decide) (fun c1 => ?_) (fun c1 => ?_)
  · have : Int32.toInt 1 = 1 := rfl
    have c1 := congrArg Int32.toInt c1
    have hGT := hG (by have : Int32.toInt 1 = 1 := rfl; omega)
    have hGl := GTm.lin hGT
    have hz := hGT.2.1
    refine lv_iload_n (pc := 11) C0.1 C0.2.1 dX10_itemAs_11 rfl (lv_at hl 1 rfl) ?_
    refine lv_i2l (pc := 12) (v := x.toInt64) C0.1 C0.2.1 dX10_itemAs_12 rfl ?_
    refine lv_lconst (pc := 13) (v := 0) C0.1 C0.2.1 dX10_itemAs_13 (by decide) ?_
    refine lv_aload_n (pc := 14) C0.1 C0.2.1 dX10_itemAs_14 rfl (lv_at hl 0 rfl) ?_
    refine xget (pc := 15) C0 hH 78 32 clX10 ⟨Nat.le_of_ble_eq_true rfl, Nat.le_of_ble_eq_true rfl⟩ ⟨rfl, rfl⟩ (Nat.le_of_ble_eq_true rfl) fl_X10_281 (v := .int (i 78 32)) rfl dX10_itemAs_15 ?_
    refine lv_iconst (pc := 18) (v := 1) C0.1 C0.2.1 dX10_itemAs_18 (by decide) ?_
    have : Int32.toInt 1 = 1 := rfl
    refine lv_isub (pc := 19) C0.1 C0.2.1 dX10_itemAs_19 ?_
    refine lv_topi (fun x2 ex2 => ?_)
    have hx2 : Int32.toInt x2 = Int32.toInt (i 78 32) - Int32.toInt 1 := by rw [ex2]; exact fb_subI (by omega) (by omega)
    refine lv_i2l (pc := 20) (v := x2.toInt64) C0.1 C0.2.1 dX10_itemAs_20 rfl ?_
    refine xcSI (pc := 21) [.long x.toInt64, .long 0, .long x2.toInt64] (c_X10_in l D tA b 78 52 i F G x.toInt64 0 x2.toInt64) C0 hH hS cw_X10_175 rfl ⟨Nat.le_of_ble_eq_true rfl, Nat.le_of_ble_eq_true rfl⟩ hl.1 rfl (Nat.le_of_ble_eq_true rfl) dX10_itemAs_21 ⟨Nat.le_of_ble_eq_true rfl, Nat.le_of_ble_eq_true rfl⟩ (fun r3 ir3 Fr3 Gr3 _ locs hp hH hS => ?_)
    obtain ⟨hu, rfl⟩ := hp
    cases hu
    refine lv_if_ne (pc := 24) (tgt := 29) C0.1 C0.2.1 dX10_itemAs_24 (by decide) (fun c4 => ?_) (fun c4 => ?_)
    · have : Int64.toInt 0 = 0 := rfl
      have : Int64.toInt (x2.toInt64) = Int32.toInt x2 := Int32.toInt_toInt64 _
      have c4 := in_1i c4
      refine lv_iload_n (pc := 29) C0.1 C0.2.1 dX10_itemAs_29 rfl (lv_at hl 2 rfl) ?_
      refine lv_i2l (pc := 30) (v := y.toInt64) C0.1 C0.2.1 dX10_itemAs_30 rfl ?_
      refine lv_lconst (pc := 31) (v := 0) C0.1 C0.2.1 dX10_itemAs_31 (by decide) ?_
      refine lv_ldc2 (pc := 32) C0.1 C0.2.1 C0.2.2.2.1 (C0.2.2.2.2.1 _ kl_X10_367) dX10_itemAs_32 ?_
      refine xcSI (pc := 35) [.long y.toInt64, .long 0, .long 5] (c_X10_in l D tA b 78 52 i F G y.toInt64 0 5) C0 hH hS cw_X10_175 rfl ⟨Nat.le_of_ble_eq_true rfl, Nat.le_of_ble_eq_true rfl⟩ hl.1 rfl (Nat.le_of_ble_eq_true rfl) dX10_itemAs_35 ⟨Nat.le_of_ble_eq_true rfl, Nat.le_of_ble_eq_true rfl⟩ (fun r5 ir5 Fr5 Gr5 _ locs hp hH hS => ?_)
      obtain ⟨hu, rfl⟩ := hp
      cases hu
      refine lv_if_ne (pc := 38) (tgt := 44) C0.1 C0.2.1 dX10_itemAs_38 (by decide) (fun c6 => ?_) (fun c6 => ?_)
      · have : Int64.toInt 0 = 0 := rfl
        have : Int64.toInt 5 = 5 := rfl
        have c6 := in_1i c6
        refine lv_aload_n (pc := 44) C0.1 C0.2.1 dX10_itemAs_44 rfl (lv_at hl 0 rfl) ?_
        refine xget (pc := 45) C0 hH 78 33 clX10 ⟨Nat.le_of_ble_eq_true rfl, Nat.le_of_ble_eq_true rfl⟩ ⟨rfl, rfl⟩ (Nat.le_of_ble_eq_true rfl) fl_X10_73 (v := .ref (b + 98)) rfl dX10_itemAs_45 ?_
        refine lv_iload_n (pc := 48) C0.1 C0.2.1 dX10_itemAs_48 rfl (lv_at hl 1 rfl) ?_
        refine xiald (pc := 49) (N := 1202) C0 hH 98 ⟨Nat.le_of_ble_eq_true rfl, Nat.le_of_ble_eq_true rfl⟩ ⟨rfl, rfl⟩ (vI (by omega) (by omega)) dX10_itemAs_49 ?_
        refine lv_topi (fun x7 ex7 => ?_)
        refine lv_istore (pc := 50) (lv' := [(4, .int x7), (0, .ref (b + 78)), (1, .int x), (2, .int y), (3, .int z)]) C0.1 C0.2.1 dX10_itemAs_50 hl (by decide) rfl (fun ls hl => ?_)
        refine lv_iload (pc := 52) C0.1 C0.2.1 dX10_itemAs_52 (lv_at hl 0 rfl) ?_
        refine lv_iconst (pc := 54) (v := 2) C0.1 C0.2.1 dX10_itemAs_54 (by decide) ?_
        refine lv_icmp_eq (pc := 55) (tgt := 70) C0.1 C0.2.1 dX10_itemAs_55 (by decide) (fun c8 => ?_) (fun c8 => ?_)
        · have : Int32.toInt 2 = 2 := rfl
          have c8 := congrArg Int32.toInt c8
          refine lv_iconst (pc := 70) (v := 1) C0.1 C0.2.1 dX10_itemAs_70 (by decide) ?_
          refine lv_goto (pc := 71) (tgt := 75) C0.1 C0.2.1 dX10_itemAs_71 (by decide) ?_
          refine lv_istore (pc := 75) (lv' := [(5, .int 1), (4, .int x7), (0, .ref (b + 78)), (1, .int x), (2, .int y), (3, .int z)]) C0.1 C0.2.1 dX10_itemAs_75 hl (by decide) rfl (fun ls hl => ?_)
          refine lv_iload_n (pc := 77) C0.1 C0.2.1 dX10_itemAs_77 rfl (lv_at hl 4 rfl) ?_
          refine lv_if_eq (pc := 78) (tgt := 118) C0.1 C0.2.1 dX10_itemAs_78 (by decide) (fun c9 => ?_) (fun c9 => ?_)
          · have : Int32.toInt 0 = 0 := rfl
            have c9 := congrArg Int32.toInt c9
            refine lv_iconst (pc := 118) (v := 1) C0.1 C0.2.1 dX10_itemAs_118 (by decide) ?_
            refine lv_goto (pc := 119) (tgt := 123) C0.1 C0.2.1 dX10_itemAs_119 (by decide) ?_
            refine lv_istore (pc := 123) (lv' := [(6, .int 1), (5, .int 1), (4, .int x7), (0, .ref (b + 78)), (1, .int x), (2, .int y), (3, .int z)]) C0.1 C0.2.1 dX10_itemAs_123 hl (by decide) rfl (fun ls hl => ?_)
            exact L125 0 1 0 0 _ _ _ (by have : Int32.toInt 1 = 1 := rfl; omega) (by omega) hH hS (lv_sub hl [0, 3, 4, 5, 6] rfl)
          · have : Int32.toInt 0 = 0 := rfl
            have c9 : ¬ _ := fun q => c9 (Int32.toInt_inj.mp q)
            refine lv_iload_n (pc := 81) C0.1 C0.2.1 dX10_itemAs_81 rfl (lv_at hl 4 rfl) ?_
            refine lv_iconst (pc := 82) (v := 1) C0.1 C0.2.1 dX10_itemAs_82 (by decide) ?_
            refine lv_icmp_ne (pc := 83) (tgt := 97) C0.1 C0.2.1 dX10_itemAs_83 (by decide) (fun c10 => ?_) (fun c10 => ?_)
            · have : Int32.toInt 1 = 1 := rfl
              have c10 : ¬ _ := fun q => c10 (Int32.toInt_inj.mp q)
              refine lv_iload_n (pc := 97) C0.1 C0.2.1 dX10_itemAs_97 rfl (lv_at hl 4 rfl) ?_
              refine lv_iconst (pc := 98) (v := 2) C0.1 C0.2.1 dX10_itemAs_98 (by decide) ?_
              refine lv_icmp_ne (pc := 99) (tgt := 107) C0.1 C0.2.1 dX10_itemAs_99 (by decide) (fun c11 => ?_) (fun c11 => ?_)
              · have : Int32.toInt 2 = 2 := rfl
                have c11 : ¬ _ := fun q => c11 (Int32.toInt_inj.mp q)
                refine lv_iload_n (pc := 107) C0.1 C0.2.1 dX10_itemAs_107 rfl (lv_at hl 4 rfl) ?_
                refine lv_iconst (pc := 108) (v := 2) C0.1 C0.2.1 dX10_itemAs_108 (by decide) ?_
                refine lv_icmp_le (pc := 109) (tgt := 122) C0.1 C0.2.1 dX10_itemAs_109 (by decide) (fun c12 => ?_) (fun c12 => ?_)
                · have : Int32.toInt 2 = 2 := rfl
                  have c12 := Int32.le_iff_toInt_le.mp c12
                  refine lv_iconst (pc := 122) (v := 0) C0.1 C0.2.1 dX10_itemAs_122 (by decide) ?_
                  refine lv_istore (pc := 123) (lv' := [(6, .int 0), (5, .int 1), (4, .int x7), (0, .ref (b + 78)), (1, .int x), (2, .int y), (3, .int z)]) C0.1 C0.2.1 dX10_itemAs_123 hl (by decide) rfl (fun ls hl => ?_)
                  exact L125 0 0 0 0 _ _ _ (by have : Int32.toInt 1 = 1 := rfl; omega) (by omega) hH hS (lv_sub hl [0, 3, 4, 5, 6] rfl)
                · have : Int32.toInt 2 = 2 := rfl
                  have c12 : ¬ _ := fun q => c12 (Int32.le_iff_toInt_le.mpr q)
                  refine lv_iload (pc := 112) C0.1 C0.2.1 dX10_itemAs_112 (lv_at hl 1 rfl) ?_
                  refine lv_iload_n (pc := 114) C0.1 C0.2.1 dX10_itemAs_114 rfl (lv_at hl 4 rfl) ?_
                  refine lv_icmp_ne (pc := 115) (tgt := 122) C0.1 C0.2.1 dX10_itemAs_115 (by decide) (fun c13 => ?_) (fun c13 => ?_)
                  · have c13 : ¬ _ := fun q => c13 (Int32.toInt_inj.mp q)
                    refine lv_iconst (pc := 122) (v := 0) C0.1 C0.2.1 dX10_itemAs_122 (by decide) ?_
                    refine lv_istore (pc := 123) (lv' := [(6, .int 0), (5, .int 1), (4, .int x7), (0, .ref (b + 78)), (1, .int x), (2, .int y), (3, .int z)]) C0.1 C0.2.1 dX10_itemAs_123 hl (by decide) rfl (fun ls hl => ?_)
                    exact L125 0 0 0 0 _ _ _ (by have : Int32.toInt 1 = 1 := rfl; omega) (by omega) hH hS (lv_sub hl [0, 3, 4, 5, 6] rfl)
                  · have c13 := congrArg Int32.toInt c13
                    refine lv_iconst (pc := 118) (v := 1) C0.1 C0.2.1 dX10_itemAs_118 (by decide) ?_
                    refine lv_goto (pc := 119) (tgt := 123) C0.1 C0.2.1 dX10_itemAs_119 (by decide) ?_
                    refine lv_istore (pc := 123) (lv' := [(6, .int 1), (5, .int 1), (4, .int x7), (0, .ref (b + 78)), (1, .int x), (2, .int y), (3, .int z)]) C0.1 C0.2.1 dX10_itemAs_123 hl (by decide) rfl (fun ls hl => ?_)
                    exact L125 0 1 0 0 _ _ _ (by have : Int32.toInt 1 = 1 := rfl; omega) (by omega) hH hS (lv_sub hl [0, 3, 4, 5, 6] rfl)
              · have : Int32.toInt 2 = 2 := rfl
                have c11 := congrArg Int32.toInt c11
                refine lv_iload (pc := 102) C0.1 C0.2.1 dX10_itemAs_102 (lv_at hl 0 rfl) ?_
                refine lv_if_ne (pc := 104) (tgt := 118) C0.1 C0.2.1 dX10_itemAs_104 (by decide) (fun _ => ?_) (fun c => absurd c (by decide))
                refine lv_iconst (pc := 118) (v := 1) C0.1 C0.2.1 dX10_itemAs_118 (by decide) ?_
                refine lv_goto (pc := 119) (tgt := 123) C0.1 C0.2.1 dX10_itemAs_119 (by decide) ?_
                refine lv_istore (pc := 123) (lv' := [(6, .int 1), (5, .int 1), (4, .int x7), (0, .ref (b + 78)), (1, .int x), (2, .int y), (3, .int z)]) C0.1 C0.2.1 dX10_itemAs_123 hl (by decide) rfl (fun ls hl => ?_)
                exact L125 0 1 0 0 _ _ _ (by have : Int32.toInt 1 = 1 := rfl; omega) (by omega) hH hS (lv_sub hl [0, 3, 4, 5, 6] rfl)
            · have : Int32.toInt 1 = 1 := rfl
              have c10 := congrArg Int32.toInt c10
              refine lv_iload (pc := 86) C0.1 C0.2.1 dX10_itemAs_86 (lv_at hl 1 rfl) ?_
              refine lv_iconst (pc := 88) (v := 1) C0.1 C0.2.1 dX10_itemAs_88 (by decide) ?_
              refine lv_icmp_eq (pc := 89) (tgt := 118) C0.1 C0.2.1 dX10_itemAs_89 (by decide) (fun c14 => ?_) (fun c14 => ?_)
              · have : Int32.toInt 1 = 1 := rfl
                have c14 := congrArg Int32.toInt c14
                refine lv_iconst (pc := 118) (v := 1) C0.1 C0.2.1 dX10_itemAs_118 (by decide) ?_
                refine lv_goto (pc := 119) (tgt := 123) C0.1 C0.2.1 dX10_itemAs_119 (by decide) ?_
                refine lv_istore (pc := 123) (lv' := [(6, .int 1), (5, .int 1), (4, .int x7), (0, .ref (b + 78)), (1, .int x), (2, .int y), (3, .int z)]) C0.1 C0.2.1 dX10_itemAs_123 hl (by decide) rfl (fun ls hl => ?_)
                exact L125 0 1 0 0 _ _ _ (by have : Int32.toInt 1 = 1 := rfl; omega) (by omega) hH hS (lv_sub hl [0, 3, 4, 5, 6] rfl)
              · have : Int32.toInt 1 = 1 := rfl
                have c14 : ¬ _ := fun q => c14 (Int32.toInt_inj.mp q)
                refine lv_iload (pc := 92) C0.1 C0.2.1 dX10_itemAs_92 (lv_at hl 0 rfl) ?_
                refine lv_if_ne (pc := 94) (tgt := 118) C0.1 C0.2.1 dX10_itemAs_94 (by decide) (fun _ => ?_) (fun c => absurd c (by decide))
                refine lv_iconst (pc := 118) (v := 1) C0.1 C0.2.1 dX10_itemAs_118 (by decide) ?_
                refine lv_goto (pc := 119) (tgt := 123) C0.1 C0.2.1 dX10_itemAs_119 (by decide) ?_
                refine lv_istore (pc := 123) (lv' := [(6, .int 1), (5, .int 1), (4, .int x7), (0, .ref (b + 78)), (1, .int x), (2, .int y), (3, .int z)]) C0.1 C0.2.1 dX10_itemAs_123 hl (by decide) rfl (fun ls hl => ?_)
                exact L125 0 1 0 0 _ _ _ (by have : Int32.toInt 1 = 1 := rfl; omega) (by omega) hH hS (lv_sub hl [0, 3, 4, 5, 6] rfl)
        · have : Int32.toInt 2 = 2 := rfl
          have c8 : ¬ _ := fun q => c8 (Int32.toInt_inj.mp q)
          refine lv_iload (pc := 58) C0.1 C0.2.1 dX10_itemAs_58 (lv_at hl 0 rfl) ?_
          refine lv_iconst (pc := 60) (v := 3) C0.1 C0.2.1 dX10_itemAs_60 (by decide) ?_
          refine lv_icmp_eq (pc := 61) (tgt := 70) C0.1 C0.2.1 dX10_itemAs_61 (by decide) (fun c15 => ?_) (fun c15 => ?_)
          · have : Int32.toInt 3 = 3 := rfl
            have c15 := congrArg Int32.toInt c15
            refine lv_iconst (pc := 70) (v := 1) C0.1 C0.2.1 dX10_itemAs_70 (by decide) ?_
            refine lv_goto (pc := 71) (tgt := 75) C0.1 C0.2.1 dX10_itemAs_71 (by decide) ?_
            refine lv_istore (pc := 75) (lv' := [(5, .int 1), (4, .int x7), (0, .ref (b + 78)), (1, .int x), (2, .int y), (3, .int z)]) C0.1 C0.2.1 dX10_itemAs_75 hl (by decide) rfl (fun ls hl => ?_)
            refine lv_iload_n (pc := 77) C0.1 C0.2.1 dX10_itemAs_77 rfl (lv_at hl 4 rfl) ?_
            refine lv_if_eq (pc := 78) (tgt := 118) C0.1 C0.2.1 dX10_itemAs_78 (by decide) (fun c16 => ?_) (fun c16 => ?_)
            · have : Int32.toInt 0 = 0 := rfl
              have c16 := congrArg Int32.toInt c16
              refine lv_iconst (pc := 118) (v := 1) C0.1 C0.2.1 dX10_itemAs_118 (by decide) ?_
              refine lv_goto (pc := 119) (tgt := 123) C0.1 C0.2.1 dX10_itemAs_119 (by decide) ?_
              refine lv_istore (pc := 123) (lv' := [(6, .int 1), (5, .int 1), (4, .int x7), (0, .ref (b + 78)), (1, .int x), (2, .int y), (3, .int z)]) C0.1 C0.2.1 dX10_itemAs_123 hl (by decide) rfl (fun ls hl => ?_)
              exact L125 0 1 0 0 _ _ _ (by have : Int32.toInt 1 = 1 := rfl; omega) (by omega) hH hS (lv_sub hl [0, 3, 4, 5, 6] rfl)
            · have : Int32.toInt 0 = 0 := rfl
              have c16 : ¬ _ := fun q => c16 (Int32.toInt_inj.mp q)
              refine lv_iload_n (pc := 81) C0.1 C0.2.1 dX10_itemAs_81 rfl (lv_at hl 4 rfl) ?_
              refine lv_iconst (pc := 82) (v := 1) C0.1 C0.2.1 dX10_itemAs_82 (by decide) ?_
              refine lv_icmp_ne (pc := 83) (tgt := 97) C0.1 C0.2.1 dX10_itemAs_83 (by decide) (fun c17 => ?_) (fun c17 => ?_)
              · have : Int32.toInt 1 = 1 := rfl
                have c17 : ¬ _ := fun q => c17 (Int32.toInt_inj.mp q)
                refine lv_iload_n (pc := 97) C0.1 C0.2.1 dX10_itemAs_97 rfl (lv_at hl 4 rfl) ?_
                refine lv_iconst (pc := 98) (v := 2) C0.1 C0.2.1 dX10_itemAs_98 (by decide) ?_
                refine lv_icmp_ne (pc := 99) (tgt := 107) C0.1 C0.2.1 dX10_itemAs_99 (by decide) (fun c18 => ?_) (fun c18 => ?_)
                · have : Int32.toInt 2 = 2 := rfl
                  have c18 : ¬ _ := fun q => c18 (Int32.toInt_inj.mp q)
                  refine lv_iload_n (pc := 107) C0.1 C0.2.1 dX10_itemAs_107 rfl (lv_at hl 4 rfl) ?_
                  refine lv_iconst (pc := 108) (v := 2) C0.1 C0.2.1 dX10_itemAs_108 (by decide) ?_
                  refine lv_icmp_le (pc := 109) (tgt := 122) C0.1 C0.2.1 dX10_itemAs_109 (by decide) (fun c19 => ?_) (fun c19 => ?_)
                  · have : Int32.toInt 2 = 2 := rfl
                    have c19 := Int32.le_iff_toInt_le.mp c19
                    refine lv_iconst (pc := 122) (v := 0) C0.1 C0.2.1 dX10_itemAs_122 (by decide) ?_
                    refine lv_istore (pc := 123) (lv' := [(6, .int 0), (5, .int 1), (4, .int x7), (0, .ref (b + 78)), (1, .int x), (2, .int y), (3, .int z)]) C0.1 C0.2.1 dX10_itemAs_123 hl (by decide) rfl (fun ls hl => ?_)
                    exact L125 0 0 0 0 _ _ _ (by have : Int32.toInt 1 = 1 := rfl; omega) (by omega) hH hS (lv_sub hl [0, 3, 4, 5, 6] rfl)
                  · have : Int32.toInt 2 = 2 := rfl
                    have c19 : ¬ _ := fun q => c19 (Int32.le_iff_toInt_le.mpr q)
                    refine lv_iload (pc := 112) C0.1 C0.2.1 dX10_itemAs_112 (lv_at hl 1 rfl) ?_
                    refine lv_iload_n (pc := 114) C0.1 C0.2.1 dX10_itemAs_114 rfl (lv_at hl 4 rfl) ?_
                    refine lv_icmp_ne (pc := 115) (tgt := 122) C0.1 C0.2.1 dX10_itemAs_115 (by decide) (fun c20 => ?_) (fun c20 => ?_)
                    · have c20 : ¬ _ := fun q => c20 (Int32.toInt_inj.mp q)
                      refine lv_iconst (pc := 122) (v := 0) C0.1 C0.2.1 dX10_itemAs_122 (by decide) ?_
                      refine lv_istore (pc := 123) (lv' := [(6, .int 0), (5, .int 1), (4, .int x7), (0, .ref (b + 78)), (1, .int x), (2, .int y), (3, .int z)]) C0.1 C0.2.1 dX10_itemAs_123 hl (by decide) rfl (fun ls hl => ?_)
                      exact L125 0 0 0 0 _ _ _ (by have : Int32.toInt 1 = 1 := rfl; omega) (by omega) hH hS (lv_sub hl [0, 3, 4, 5, 6] rfl)
                    · have c20 := congrArg Int32.toInt c20
                      refine lv_iconst (pc := 118) (v := 1) C0.1 C0.2.1 dX10_itemAs_118 (by decide) ?_
                      refine lv_goto (pc := 119) (tgt := 123) C0.1 C0.2.1 dX10_itemAs_119 (by decide) ?_
                      refine lv_istore (pc := 123) (lv' := [(6, .int 1), (5, .int 1), (4, .int x7), (0, .ref (b + 78)), (1, .int x), (2, .int y), (3, .int z)]) C0.1 C0.2.1 dX10_itemAs_123 hl (by decide) rfl (fun ls hl => ?_)
                      exact L125 0 1 0 0 _ _ _ (by have : Int32.toInt 1 = 1 := rfl; omega) (by omega) hH hS (lv_sub hl [0, 3, 4, 5, 6] rfl)
                · have : Int32.toInt 2 = 2 := rfl
                  have c18 := congrArg Int32.toInt c18
                  refine lv_iload (pc := 102) C0.1 C0.2.1 dX10_itemAs_102 (lv_at hl 0 rfl) ?_
                  refine lv_if_ne (pc := 104) (tgt := 118) C0.1 C0.2.1 dX10_itemAs_104 (by decide) (fun _ => ?_) (fun c => absurd c (by decide))
                  refine lv_iconst (pc := 118) (v := 1) C0.1 C0.2.1 dX10_itemAs_118 (by decide) ?_
                  refine lv_goto (pc := 119) (tgt := 123) C0.1 C0.2.1 dX10_itemAs_119 (by decide) ?_
                  refine lv_istore (pc := 123) (lv' := [(6, .int 1), (5, .int 1), (4, .int x7), (0, .ref (b + 78)), (1, .int x), (2, .int y), (3, .int z)]) C0.1 C0.2.1 dX10_itemAs_123 hl (by decide) rfl (fun ls hl => ?_)
                  exact L125 0 1 0 0 _ _ _ (by have : Int32.toInt 1 = 1 := rfl; omega) (by omega) hH hS (lv_sub hl [0, 3, 4, 5, 6] rfl)
              · have : Int32.toInt 1 = 1 := rfl
                have c17 := congrArg Int32.toInt c17
                refine lv_iload (pc := 86) C0.1 C0.2.1 dX10_itemAs_86 (lv_at hl 1 rfl) ?_
                refine lv_iconst (pc := 88) (v := 1) C0.1 C0.2.1 dX10_itemAs_88 (by decide) ?_
                refine lv_icmp_eq (pc := 89) (tgt := 118) C0.1 C0.2.1 dX10_itemAs_89 (by decide) (fun c21 => ?_) (fun c21 => ?_)
                · have : Int32.toInt 1 = 1 := rfl
                  have c21 := congrArg Int32.toInt c21
                  refine lv_iconst (pc := 118) (v := 1) C0.1 C0.2.1 dX10_itemAs_118 (by decide) ?_
                  refine lv_goto (pc := 119) (tgt := 123) C0.1 C0.2.1 dX10_itemAs_119 (by decide) ?_
                  refine lv_istore (pc := 123) (lv' := [(6, .int 1), (5, .int 1), (4, .int x7), (0, .ref (b + 78)), (1, .int x), (2, .int y), (3, .int z)]) C0.1 C0.2.1 dX10_itemAs_123 hl (by decide) rfl (fun ls hl => ?_)
                  exact L125 0 1 0 0 _ _ _ (by have : Int32.toInt 1 = 1 := rfl; omega) (by omega) hH hS (lv_sub hl [0, 3, 4, 5, 6] rfl)
                · have : Int32.toInt 1 = 1 := rfl
                  have c21 : ¬ _ := fun q => c21 (Int32.toInt_inj.mp q)
                  refine lv_iload (pc := 92) C0.1 C0.2.1 dX10_itemAs_92 (lv_at hl 0 rfl) ?_
                  refine lv_if_ne (pc := 94) (tgt := 118) C0.1 C0.2.1 dX10_itemAs_94 (by decide) (fun _ => ?_) (fun c => absurd c (by decide))
                  refine lv_iconst (pc := 118) (v := 1) C0.1 C0.2.1 dX10_itemAs_118 (by decide) ?_
                  refine lv_goto (pc := 119) (tgt := 123) C0.1 C0.2.1 dX10_itemAs_119 (by decide) ?_
                  refine lv_istore (pc := 123) (lv' := [(6, .int 1), (5, .int 1), (4, .int x7), (0, .ref (b + 78)), (1, .int x), (2, .int y), (3, .int z)]) C0.1 C0.2.1 dX10_itemAs_123 hl (by decide) rfl (fun ls hl => ?_)
                  exact L125 0 1 0 0 _ _ _ (by have : Int32.toInt 1 = 1 := rfl; omega) (by omega) hH hS (lv_sub hl [0, 3, 4, 5, 6] rfl)
          · have : Int32.toInt 3 = 3 := rfl
            have c15 : ¬ _ := fun q => c15 (Int32.toInt_inj.mp q)
            refine lv_iload (pc := 64) C0.1 C0.2.1 dX10_itemAs_64 (lv_at hl 0 rfl) ?_
            refine lv_iconst (pc := 66) (v := 5) C0.1 C0.2.1 dX10_itemAs_66 (by decide) ?_
            refine lv_icmp_ne (pc := 67) (tgt := 74) C0.1 C0.2.1 dX10_itemAs_67 (by decide) (fun c22 => ?_) (fun c22 => ?_)
            · have : Int32.toInt 5 = 5 := rfl
              have c22 : ¬ _ := fun q => c22 (Int32.toInt_inj.mp q)
              refine lv_iconst (pc := 74) (v := 0) C0.1 C0.2.1 dX10_itemAs_74 (by decide) ?_
              refine lv_istore (pc := 75) (lv' := [(5, .int 0), (4, .int x7), (0, .ref (b + 78)), (1, .int x), (2, .int y), (3, .int z)]) C0.1 C0.2.1 dX10_itemAs_75 hl (by decide) rfl (fun ls hl => ?_)
              refine lv_iload_n (pc := 77) C0.1 C0.2.1 dX10_itemAs_77 rfl (lv_at hl 4 rfl) ?_
              refine lv_if_eq (pc := 78) (tgt := 118) C0.1 C0.2.1 dX10_itemAs_78 (by decide) (fun c23 => ?_) (fun c23 => ?_)
              · have : Int32.toInt 0 = 0 := rfl
                have c23 := congrArg Int32.toInt c23
                refine lv_iconst (pc := 118) (v := 1) C0.1 C0.2.1 dX10_itemAs_118 (by decide) ?_
                refine lv_goto (pc := 119) (tgt := 123) C0.1 C0.2.1 dX10_itemAs_119 (by decide) ?_
                refine lv_istore (pc := 123) (lv' := [(6, .int 1), (5, .int 0), (4, .int x7), (0, .ref (b + 78)), (1, .int x), (2, .int y), (3, .int z)]) C0.1 C0.2.1 dX10_itemAs_123 hl (by decide) rfl (fun ls hl => ?_)
                exact L125 0 1 0 0 _ _ _ (by have : Int32.toInt 1 = 1 := rfl; omega) (by omega) hH hS (lv_sub hl [0, 3, 4, 5, 6] rfl)
              · have : Int32.toInt 0 = 0 := rfl
                have c23 : ¬ _ := fun q => c23 (Int32.toInt_inj.mp q)
                refine lv_iload_n (pc := 81) C0.1 C0.2.1 dX10_itemAs_81 rfl (lv_at hl 4 rfl) ?_
                refine lv_iconst (pc := 82) (v := 1) C0.1 C0.2.1 dX10_itemAs_82 (by decide) ?_
                refine lv_icmp_ne (pc := 83) (tgt := 97) C0.1 C0.2.1 dX10_itemAs_83 (by decide) (fun c24 => ?_) (fun c24 => ?_)
                · have : Int32.toInt 1 = 1 := rfl
                  have c24 : ¬ _ := fun q => c24 (Int32.toInt_inj.mp q)
                  refine lv_iload_n (pc := 97) C0.1 C0.2.1 dX10_itemAs_97 rfl (lv_at hl 4 rfl) ?_
                  refine lv_iconst (pc := 98) (v := 2) C0.1 C0.2.1 dX10_itemAs_98 (by decide) ?_
                  refine lv_icmp_ne (pc := 99) (tgt := 107) C0.1 C0.2.1 dX10_itemAs_99 (by decide) (fun c25 => ?_) (fun c25 => ?_)
                  · have : Int32.toInt 2 = 2 := rfl
                    have c25 : ¬ _ := fun q => c25 (Int32.toInt_inj.mp q)
                    refine lv_iload_n (pc := 107) C0.1 C0.2.1 dX10_itemAs_107 rfl (lv_at hl 4 rfl) ?_
                    refine lv_iconst (pc := 108) (v := 2) C0.1 C0.2.1 dX10_itemAs_108 (by decide) ?_
                    refine lv_icmp_le (pc := 109) (tgt := 122) C0.1 C0.2.1 dX10_itemAs_109 (by decide) (fun c26 => ?_) (fun c26 => ?_)
                    · have : Int32.toInt 2 = 2 := rfl
                      have c26 := Int32.le_iff_toInt_le.mp c26
                      refine lv_iconst (pc := 122) (v := 0) C0.1 C0.2.1 dX10_itemAs_122 (by decide) ?_
                      refine lv_istore (pc := 123) (lv' := [(6, .int 0), (5, .int 0), (4, .int x7), (0, .ref (b + 78)), (1, .int x), (2, .int y), (3, .int z)]) C0.1 C0.2.1 dX10_itemAs_123 hl (by decide) rfl (fun ls hl => ?_)
                      exact L125 0 0 0 0 _ _ _ (by have : Int32.toInt 1 = 1 := rfl; omega) (by omega) hH hS (lv_sub hl [0, 3, 4, 5, 6] rfl)
                    · have : Int32.toInt 2 = 2 := rfl
                      have c26 : ¬ _ := fun q => c26 (Int32.le_iff_toInt_le.mpr q)
                      refine lv_iload (pc := 112) C0.1 C0.2.1 dX10_itemAs_112 (lv_at hl 1 rfl) ?_
                      refine lv_iload_n (pc := 114) C0.1 C0.2.1 dX10_itemAs_114 rfl (lv_at hl 4 rfl) ?_
                      refine lv_icmp_ne (pc := 115) (tgt := 122) C0.1 C0.2.1 dX10_itemAs_115 (by decide) (fun c27 => ?_) (fun c27 => ?_)
                      · have c27 : ¬ _ := fun q => c27 (Int32.toInt_inj.mp q)
                        refine lv_iconst (pc := 122) (v := 0) C0.1 C0.2.1 dX10_itemAs_122 (by decide) ?_
                        refine lv_istore (pc := 123) (lv' := [(6, .int 0), (5, .int 0), (4, .int x7), (0, .ref (b + 78)), (1, .int x), (2, .int y), (3, .int z)]) C0.1 C0.2.1 dX10_itemAs_123 hl (by decide) rfl (fun ls hl => ?_)
                        exact L125 0 0 0 0 _ _ _ (by have : Int32.toInt 1 = 1 := rfl; omega) (by omega) hH hS (lv_sub hl [0, 3, 4, 5, 6] rfl)
                      · have c27 := congrArg Int32.toInt c27
                        refine lv_iconst (pc := 118) (v := 1) C0.1 C0.2.1 dX10_itemAs_118 (by decide) ?_
                        refine lv_goto (pc := 119) (tgt := 123) C0.1 C0.2.1 dX10_itemAs_119 (by decide) ?_
                        refine lv_istore (pc := 123) (lv' := [(6, .int 1), (5, .int 0), (4, .int x7), (0, .ref (b + 78)), (1, .int x), (2, .int y), (3, .int z)]) C0.1 C0.2.1 dX10_itemAs_123 hl (by decide) rfl (fun ls hl => ?_)
                        exact L125 0 1 0 0 _ _ _ (by have : Int32.toInt 1 = 1 := rfl; omega) (by omega) hH hS (lv_sub hl [0, 3, 4, 5, 6] rfl)
                  · have : Int32.toInt 2 = 2 := rfl
                    have c25 := congrArg Int32.toInt c25
                    refine lv_iload (pc := 102) C0.1 C0.2.1 dX10_itemAs_102 (lv_at hl 0 rfl) ?_
                    refine lv_if_ne (pc := 104) (tgt := 118) C0.1 C0.2.1 dX10_itemAs_104 (by decide) (fun c => absurd (by decide) c) (fun _ => ?_)
                    refine lv_iload_n (pc := 107) C0.1 C0.2.1 dX10_itemAs_107 rfl (lv_at hl 4 rfl) ?_
                    refine lv_iconst (pc := 108) (v := 2) C0.1 C0.2.1 dX10_itemAs_108 (by decide) ?_
                    refine lv_icmp_le (pc := 109) (tgt := 122) C0.1 C0.2.1 dX10_itemAs_109 (by decide) (fun c28 => ?_) (fun c28 => ?_)
                    · have : Int32.toInt 2 = 2 := rfl
                      have c28 := Int32.le_iff_toInt_le.mp c28
                      refine lv_iconst (pc := 122) (v := 0) C0.1 C0.2.1 dX10_itemAs_122 (by decide) ?_
                      refine lv_istore (pc := 123) (lv' := [(6, .int 0), (5, .int 0), (4, .int x7), (0, .ref (b + 78)), (1, .int x), (2, .int y), (3, .int z)]) C0.1 C0.2.1 dX10_itemAs_123 hl (by decide) rfl (fun ls hl => ?_)
                      exact L125 0 0 0 0 _ _ _ (by have : Int32.toInt 1 = 1 := rfl; omega) (by omega) hH hS (lv_sub hl [0, 3, 4, 5, 6] rfl)
                    · have : Int32.toInt 2 = 2 := rfl
                      have c28 : ¬ _ := fun q => c28 (Int32.le_iff_toInt_le.mpr q)
                      refine lv_iload (pc := 112) C0.1 C0.2.1 dX10_itemAs_112 (lv_at hl 1 rfl) ?_
                      refine lv_iload_n (pc := 114) C0.1 C0.2.1 dX10_itemAs_114 rfl (lv_at hl 4 rfl) ?_
                      refine lv_icmp_ne (pc := 115) (tgt := 122) C0.1 C0.2.1 dX10_itemAs_115 (by decide) (fun c29 => ?_) (fun c29 => ?_)
                      · have c29 : ¬ _ := fun q => c29 (Int32.toInt_inj.mp q)
                        refine lv_iconst (pc := 122) (v := 0) C0.1 C0.2.1 dX10_itemAs_122 (by decide) ?_
                        refine lv_istore (pc := 123) (lv' := [(6, .int 0), (5, .int 0), (4, .int x7), (0, .ref (b + 78)), (1, .int x), (2, .int y), (3, .int z)]) C0.1 C0.2.1 dX10_itemAs_123 hl (by decide) rfl (fun ls hl => ?_)
                        exact L125 0 0 0 0 _ _ _ (by have : Int32.toInt 1 = 1 := rfl; omega) (by omega) hH hS (lv_sub hl [0, 3, 4, 5, 6] rfl)
                      · have c29 := congrArg Int32.toInt c29
                        refine lv_iconst (pc := 118) (v := 1) C0.1 C0.2.1 dX10_itemAs_118 (by decide) ?_
                        refine lv_goto (pc := 119) (tgt := 123) C0.1 C0.2.1 dX10_itemAs_119 (by decide) ?_
                        refine lv_istore (pc := 123) (lv' := [(6, .int 1), (5, .int 0), (4, .int x7), (0, .ref (b + 78)), (1, .int x), (2, .int y), (3, .int z)]) C0.1 C0.2.1 dX10_itemAs_123 hl (by decide) rfl (fun ls hl => ?_)
                        exact L125 0 1 0 0 _ _ _ (by have : Int32.toInt 1 = 1 := rfl; omega) (by omega) hH hS (lv_sub hl [0, 3, 4, 5, 6] rfl)
                · have : Int32.toInt 1 = 1 := rfl
                  have c24 := congrArg Int32.toInt c24
                  refine lv_iload (pc := 86) C0.1 C0.2.1 dX10_itemAs_86 (lv_at hl 1 rfl) ?_
                  refine lv_iconst (pc := 88) (v := 1) C0.1 C0.2.1 dX10_itemAs_88 (by decide) ?_
                  refine lv_icmp_eq (pc := 89) (tgt := 118) C0.1 C0.2.1 dX10_itemAs_89 (by decide) (fun c30 => ?_) (fun c30 => ?_)
                  · have : Int32.toInt 1 = 1 := rfl
                    have c30 := congrArg Int32.toInt c30
                    refine lv_iconst (pc := 118) (v := 1) C0.1 C0.2.1 dX10_itemAs_118 (by decide) ?_
                    refine lv_goto (pc := 119) (tgt := 123) C0.1 C0.2.1 dX10_itemAs_119 (by decide) ?_
                    refine lv_istore (pc := 123) (lv' := [(6, .int 1), (5, .int 0), (4, .int x7), (0, .ref (b + 78)), (1, .int x), (2, .int y), (3, .int z)]) C0.1 C0.2.1 dX10_itemAs_123 hl (by decide) rfl (fun ls hl => ?_)
                    exact L125 0 1 0 0 _ _ _ (by have : Int32.toInt 1 = 1 := rfl; omega) (by omega) hH hS (lv_sub hl [0, 3, 4, 5, 6] rfl)
                  · have : Int32.toInt 1 = 1 := rfl
                    have c30 : ¬ _ := fun q => c30 (Int32.toInt_inj.mp q)
                    refine lv_iload (pc := 92) C0.1 C0.2.1 dX10_itemAs_92 (lv_at hl 0 rfl) ?_
                    refine lv_if_ne (pc := 94) (tgt := 118) C0.1 C0.2.1 dX10_itemAs_94 (by decide) (fun c => absurd (by decide) c) (fun _ => ?_)
                    refine lv_iload_n (pc := 97) C0.1 C0.2.1 dX10_itemAs_97 rfl (lv_at hl 4 rfl) ?_
                    refine lv_iconst (pc := 98) (v := 2) C0.1 C0.2.1 dX10_itemAs_98 (by decide) ?_
                    refine lv_icmp_ne (pc := 99) (tgt := 107) C0.1 C0.2.1 dX10_itemAs_99 (by decide) (fun c31 => ?_) (fun c31 => ?_)
                    · have : Int32.toInt 2 = 2 := rfl
                      have c31 : ¬ _ := fun q => c31 (Int32.toInt_inj.mp q)
                      refine lv_iload_n (pc := 107) C0.1 C0.2.1 dX10_itemAs_107 rfl (lv_at hl 4 rfl) ?_
                      refine lv_iconst (pc := 108) (v := 2) C0.1 C0.2.1 dX10_itemAs_108 (by decide) ?_
                      refine lv_icmp_le (pc := 109) (tgt := 122) C0.1 C0.2.1 dX10_itemAs_109 (by decide) (fun c32 => ?_) (fun c32 => ?_)
                      · have : Int32.toInt 2 = 2 := rfl
                        have c32 := Int32.le_iff_toInt_le.mp c32
                        refine lv_iconst (pc := 122) (v := 0) C0.1 C0.2.1 dX10_itemAs_122 (by decide) ?_
                        refine lv_istore (pc := 123) (lv' := [(6, .int 0), (5, .int 0), (4, .int x7), (0, .ref (b + 78)), (1, .int x), (2, .int y), (3, .int z)]) C0.1 C0.2.1 dX10_itemAs_123 hl (by decide) rfl (fun ls hl => ?_)
                        exact L125 0 0 0 0 _ _ _ (by have : Int32.toInt 1 = 1 := rfl; omega) (by omega) hH hS (lv_sub hl [0, 3, 4, 5, 6] rfl)
                      · have : Int32.toInt 2 = 2 := rfl
                        have c32 : ¬ _ := fun q => c32 (Int32.le_iff_toInt_le.mpr q)
                        refine lv_iload (pc := 112) C0.1 C0.2.1 dX10_itemAs_112 (lv_at hl 1 rfl) ?_
                        refine lv_iload_n (pc := 114) C0.1 C0.2.1 dX10_itemAs_114 rfl (lv_at hl 4 rfl) ?_
                        refine lv_icmp_ne (pc := 115) (tgt := 122) C0.1 C0.2.1 dX10_itemAs_115 (by decide) (fun c33 => ?_) (fun c33 => ?_)
                        · have c33 : ¬ _ := fun q => c33 (Int32.toInt_inj.mp q)
                          refine lv_iconst (pc := 122) (v := 0) C0.1 C0.2.1 dX10_itemAs_122 (by decide) ?_
                          refine lv_istore (pc := 123) (lv' := [(6, .int 0), (5, .int 0), (4, .int x7), (0, .ref (b + 78)), (1, .int x), (2, .int y), (3, .int z)]) C0.1 C0.2.1 dX10_itemAs_123 hl (by decide) rfl (fun ls hl => ?_)
                          exact L125 0 0 0 0 _ _ _ (by have : Int32.toInt 1 = 1 := rfl; omega) (by omega) hH hS (lv_sub hl [0, 3, 4, 5, 6] rfl)
                        · have c33 := congrArg Int32.toInt c33
                          refine lv_iconst (pc := 118) (v := 1) C0.1 C0.2.1 dX10_itemAs_118 (by decide) ?_
                          refine lv_goto (pc := 119) (tgt := 123) C0.1 C0.2.1 dX10_itemAs_119 (by decide) ?_
                          refine lv_istore (pc := 123) (lv' := [(6, .int 1), (5, .int 0), (4, .int x7), (0, .ref (b + 78)), (1, .int x), (2, .int y), (3, .int z)]) C0.1 C0.2.1 dX10_itemAs_123 hl (by decide) rfl (fun ls hl => ?_)
                          exact L125 0 1 0 0 _ _ _ (by have : Int32.toInt 1 = 1 := rfl; omega) (by omega) hH hS (lv_sub hl [0, 3, 4, 5, 6] rfl)
                    · have : Int32.toInt 2 = 2 := rfl
                      have c31 := congrArg Int32.toInt c31
                      refine lv_iload (pc := 102) C0.1 C0.2.1 dX10_itemAs_102 (lv_at hl 0 rfl) ?_
                      refine lv_if_ne (pc := 104) (tgt := 118) C0.1 C0.2.1 dX10_itemAs_104 (by decide) (fun c => absurd (by decide) c) (fun _ => ?_)
                      refine lv_iload_n (pc := 107) C0.1 C0.2.1 dX10_itemAs_107 rfl (lv_at hl 4 rfl) ?_
                      refine lv_iconst (pc := 108) (v := 2) C0.1 C0.2.1 dX10_itemAs_108 (by decide) ?_
                      refine lv_icmp_le (pc := 109) (tgt := 122) C0.1 C0.2.1 dX10_itemAs_109 (by decide) (fun c34 => ?_) (fun c34 => ?_)
                      · have : Int32.toInt 2 = 2 := rfl
                        have c34 := Int32.le_iff_toInt_le.mp c34
                        refine lv_iconst (pc := 122) (v := 0) C0.1 C0.2.1 dX10_itemAs_122 (by decide) ?_
                        refine lv_istore (pc := 123) (lv' := [(6, .int 0), (5, .int 0), (4, .int x7), (0, .ref (b + 78)), (1, .int x), (2, .int y), (3, .int z)]) C0.1 C0.2.1 dX10_itemAs_123 hl (by decide) rfl (fun ls hl => ?_)
                        exact L125 0 0 0 0 _ _ _ (by have : Int32.toInt 1 = 1 := rfl; omega) (by omega) hH hS (lv_sub hl [0, 3, 4, 5, 6] rfl)
                      · have : Int32.toInt 2 = 2 := rfl
                        have c34 : ¬ _ := fun q => c34 (Int32.le_iff_toInt_le.mpr q)
                        refine lv_iload (pc := 112) C0.1 C0.2.1 dX10_itemAs_112 (lv_at hl 1 rfl) ?_
                        refine lv_iload_n (pc := 114) C0.1 C0.2.1 dX10_itemAs_114 rfl (lv_at hl 4 rfl) ?_
                        refine lv_icmp_ne (pc := 115) (tgt := 122) C0.1 C0.2.1 dX10_itemAs_115 (by decide) (fun c35 => ?_) (fun c35 => ?_)
                        · have c35 : ¬ _ := fun q => c35 (Int32.toInt_inj.mp q)
                          refine lv_iconst (pc := 122) (v := 0) C0.1 C0.2.1 dX10_itemAs_122 (by decide) ?_
                          refine lv_istore (pc := 123) (lv' := [(6, .int 0), (5, .int 0), (4, .int x7), (0, .ref (b + 78)), (1, .int x), (2, .int y), (3, .int z)]) C0.1 C0.2.1 dX10_itemAs_123 hl (by decide) rfl (fun ls hl => ?_)
                          exact L125 0 0 0 0 _ _ _ (by have : Int32.toInt 1 = 1 := rfl; omega) (by omega) hH hS (lv_sub hl [0, 3, 4, 5, 6] rfl)
                        · have c35 := congrArg Int32.toInt c35
                          refine lv_iconst (pc := 118) (v := 1) C0.1 C0.2.1 dX10_itemAs_118 (by decide) ?_
                          refine lv_goto (pc := 119) (tgt := 123) C0.1 C0.2.1 dX10_itemAs_119 (by decide) ?_
                          refine lv_istore (pc := 123) (lv' := [(6, .int 1), (5, .int 0), (4, .int x7), (0, .ref (b + 78)), (1, .int x), (2, .int y), (3, .int z)]) C0.1 C0.2.1 dX10_itemAs_123 hl (by decide) rfl (fun ls hl => ?_)
                          exact L125 0 1 0 0 _ _ _ (by have : Int32.toInt 1 = 1 := rfl; omega) (by omega) hH hS (lv_sub hl [0, 3, 4, 5, 6] rfl)
            · have : Int32.toInt 5 = 5 := rfl
              have c22 := congrArg Int32.toInt c22
              refine lv_iconst (pc := 70) (v := 1) C0.1 C0.2.1 dX10_itemAs_70 (by decide) ?_
              refine lv_goto (pc := 71) (tgt := 75) C0.1 C0.2.1 dX10_itemAs_71 (by decide) ?_
              refine lv_istore (pc := 75) (lv' := [(5, .int 1), (4, .int x7), (0, .ref (b + 78)), (1, .int x), (2, .int y), (3, .int z)]) C0.1 C0.2.1 dX10_itemAs_75 hl (by decide) rfl (fun ls hl => ?_)
              refine lv_iload_n (pc := 77) C0.1 C0.2.1 dX10_itemAs_77 rfl (lv_at hl 4 rfl) ?_
              refine lv_if_eq (pc := 78) (tgt := 118) C0.1 C0.2.1 dX10_itemAs_78 (by decide) (fun c36 => ?_) (fun c36 => ?_)
              · have : Int32.toInt 0 = 0 := rfl
                have c36 := congrArg Int32.toInt c36
                refine lv_iconst (pc := 118) (v := 1) C0.1 C0.2.1 dX10_itemAs_118 (by decide) ?_
                refine lv_goto (pc := 119) (tgt := 123) C0.1 C0.2.1 dX10_itemAs_119 (by decide) ?_
                refine lv_istore (pc := 123) (lv' := [(6, .int 1), (5, .int 1), (4, .int x7), (0, .ref (b + 78)), (1, .int x), (2, .int y), (3, .int z)]) C0.1 C0.2.1 dX10_itemAs_123 hl (by decide) rfl (fun ls hl => ?_)
                exact L125 0 1 0 0 _ _ _ (by have : Int32.toInt 1 = 1 := rfl; omega) (by omega) hH hS (lv_sub hl [0, 3, 4, 5, 6] rfl)
              · have : Int32.toInt 0 = 0 := rfl
                have c36 : ¬ _ := fun q => c36 (Int32.toInt_inj.mp q)
                refine lv_iload_n (pc := 81) C0.1 C0.2.1 dX10_itemAs_81 rfl (lv_at hl 4 rfl) ?_
                refine lv_iconst (pc := 82) (v := 1) C0.1 C0.2.1 dX10_itemAs_82 (by decide) ?_
                refine lv_icmp_ne (pc := 83) (tgt := 97) C0.1 C0.2.1 dX10_itemAs_83 (by decide) (fun c37 => ?_) (fun c37 => ?_)
                · have : Int32.toInt 1 = 1 := rfl
                  have c37 : ¬ _ := fun q => c37 (Int32.toInt_inj.mp q)
                  refine lv_iload_n (pc := 97) C0.1 C0.2.1 dX10_itemAs_97 rfl (lv_at hl 4 rfl) ?_
                  refine lv_iconst (pc := 98) (v := 2) C0.1 C0.2.1 dX10_itemAs_98 (by decide) ?_
                  refine lv_icmp_ne (pc := 99) (tgt := 107) C0.1 C0.2.1 dX10_itemAs_99 (by decide) (fun c38 => ?_) (fun c38 => ?_)
                  · have : Int32.toInt 2 = 2 := rfl
                    have c38 : ¬ _ := fun q => c38 (Int32.toInt_inj.mp q)
                    refine lv_iload_n (pc := 107) C0.1 C0.2.1 dX10_itemAs_107 rfl (lv_at hl 4 rfl) ?_
                    refine lv_iconst (pc := 108) (v := 2) C0.1 C0.2.1 dX10_itemAs_108 (by decide) ?_
                    refine lv_icmp_le (pc := 109) (tgt := 122) C0.1 C0.2.1 dX10_itemAs_109 (by decide) (fun c39 => ?_) (fun c39 => ?_)
                    · have : Int32.toInt 2 = 2 := rfl
                      have c39 := Int32.le_iff_toInt_le.mp c39
                      refine lv_iconst (pc := 122) (v := 0) C0.1 C0.2.1 dX10_itemAs_122 (by decide) ?_
                      refine lv_istore (pc := 123) (lv' := [(6, .int 0), (5, .int 1), (4, .int x7), (0, .ref (b + 78)), (1, .int x), (2, .int y), (3, .int z)]) C0.1 C0.2.1 dX10_itemAs_123 hl (by decide) rfl (fun ls hl => ?_)
                      exact L125 0 0 0 0 _ _ _ (by have : Int32.toInt 1 = 1 := rfl; omega) (by omega) hH hS (lv_sub hl [0, 3, 4, 5, 6] rfl)
                    · have : Int32.toInt 2 = 2 := rfl
                      have c39 : ¬ _ := fun q => c39 (Int32.le_iff_toInt_le.mpr q)
                      refine lv_iload (pc := 112) C0.1 C0.2.1 dX10_itemAs_112 (lv_at hl 1 rfl) ?_
                      refine lv_iload_n (pc := 114) C0.1 C0.2.1 dX10_itemAs_114 rfl (lv_at hl 4 rfl) ?_
                      refine lv_icmp_ne (pc := 115) (tgt := 122) C0.1 C0.2.1 dX10_itemAs_115 (by decide) (fun c40 => ?_) (fun c40 => ?_)
                      · have c40 : ¬ _ := fun q => c40 (Int32.toInt_inj.mp q)
                        refine lv_iconst (pc := 122) (v := 0) C0.1 C0.2.1 dX10_itemAs_122 (by decide) ?_
                        refine lv_istore (pc := 123) (lv' := [(6, .int 0), (5, .int 1), (4, .int x7), (0, .ref (b + 78)), (1, .int x), (2, .int y), (3, .int z)]) C0.1 C0.2.1 dX10_itemAs_123 hl (by decide) rfl (fun ls hl => ?_)
                        exact L125 0 0 0 0 _ _ _ (by have : Int32.toInt 1 = 1 := rfl; omega) (by omega) hH hS (lv_sub hl [0, 3, 4, 5, 6] rfl)
                      · have c40 := congrArg Int32.toInt c40
                        refine lv_iconst (pc := 118) (v := 1) C0.1 C0.2.1 dX10_itemAs_118 (by decide) ?_
                        refine lv_goto (pc := 119) (tgt := 123) C0.1 C0.2.1 dX10_itemAs_119 (by decide) ?_
                        refine lv_istore (pc := 123) (lv' := [(6, .int 1), (5, .int 1), (4, .int x7), (0, .ref (b + 78)), (1, .int x), (2, .int y), (3, .int z)]) C0.1 C0.2.1 dX10_itemAs_123 hl (by decide) rfl (fun ls hl => ?_)
                        exact L125 0 1 0 0 _ _ _ (by have : Int32.toInt 1 = 1 := rfl; omega) (by omega) hH hS (lv_sub hl [0, 3, 4, 5, 6] rfl)
                  · have : Int32.toInt 2 = 2 := rfl
                    have c38 := congrArg Int32.toInt c38
                    refine lv_iload (pc := 102) C0.1 C0.2.1 dX10_itemAs_102 (lv_at hl 0 rfl) ?_
                    refine lv_if_ne (pc := 104) (tgt := 118) C0.1 C0.2.1 dX10_itemAs_104 (by decide) (fun _ => ?_) (fun c => absurd c (by decide))
                    refine lv_iconst (pc := 118) (v := 1) C0.1 C0.2.1 dX10_itemAs_118 (by decide) ?_
                    refine lv_goto (pc := 119) (tgt := 123) C0.1 C0.2.1 dX10_itemAs_119 (by decide) ?_
                    refine lv_istore (pc := 123) (lv' := [(6, .int 1), (5, .int 1), (4, .int x7), (0, .ref (b + 78)), (1, .int x), (2, .int y), (3, .int z)]) C0.1 C0.2.1 dX10_itemAs_123 hl (by decide) rfl (fun ls hl => ?_)
                    exact L125 0 1 0 0 _ _ _ (by have : Int32.toInt 1 = 1 := rfl; omega) (by omega) hH hS (lv_sub hl [0, 3, 4, 5, 6] rfl)
                · have : Int32.toInt 1 = 1 := rfl
                  have c37 := congrArg Int32.toInt c37
                  refine lv_iload (pc := 86) C0.1 C0.2.1 dX10_itemAs_86 (lv_at hl 1 rfl) ?_
                  refine lv_iconst (pc := 88) (v := 1) C0.1 C0.2.1 dX10_itemAs_88 (by decide) ?_
                  refine lv_icmp_eq (pc := 89) (tgt := 118) C0.1 C0.2.1 dX10_itemAs_89 (by decide) (fun c41 => ?_) (fun c41 => ?_)
                  · have : Int32.toInt 1 = 1 := rfl
                    have c41 := congrArg Int32.toInt c41
                    refine lv_iconst (pc := 118) (v := 1) C0.1 C0.2.1 dX10_itemAs_118 (by decide) ?_
                    refine lv_goto (pc := 119) (tgt := 123) C0.1 C0.2.1 dX10_itemAs_119 (by decide) ?_
                    refine lv_istore (pc := 123) (lv' := [(6, .int 1), (5, .int 1), (4, .int x7), (0, .ref (b + 78)), (1, .int x), (2, .int y), (3, .int z)]) C0.1 C0.2.1 dX10_itemAs_123 hl (by decide) rfl (fun ls hl => ?_)
                    exact L125 0 1 0 0 _ _ _ (by have : Int32.toInt 1 = 1 := rfl; omega) (by omega) hH hS (lv_sub hl [0, 3, 4, 5, 6] rfl)
                  · have : Int32.toInt 1 = 1 := rfl
                    have c41 : ¬ _ := fun q => c41 (Int32.toInt_inj.mp q)
                    refine lv_iload (pc := 92) C0.1 C0.2.1 dX10_itemAs_92 (lv_at hl 0 rfl) ?_
                    refine lv_if_ne (pc := 94) (tgt := 118) C0.1 C0.2.1 dX10_itemAs_94 (by decide) (fun _ => ?_) (fun c => absurd c (by decide))
                    refine lv_iconst (pc := 118) (v := 1) C0.1 C0.2.1 dX10_itemAs_118 (by decide) ?_
                    refine lv_goto (pc := 119) (tgt := 123) C0.1 C0.2.1 dX10_itemAs_119 (by decide) ?_
                    refine lv_istore (pc := 123) (lv' := [(6, .int 1), (5, .int 1), (4, .int x7), (0, .ref (b + 78)), (1, .int x), (2, .int y), (3, .int z)]) C0.1 C0.2.1 dX10_itemAs_123 hl (by decide) rfl (fun ls hl => ?_)
                    exact L125 0 1 0 0 _ _ _ (by have : Int32.toInt 1 = 1 := rfl; omega) (by omega) hH hS (lv_sub hl [0, 3, 4, 5, 6] rfl)
      · have : Int64.toInt 0 = 0 := rfl
        have : Int64.toInt 5 = 5 := rfl
        have c6 := in_0i c6
        refine lv_bipush (pc := 41) (v := (-2)) C0.1 C0.2.1 dX10_itemAs_41 (by decide) ?_
        exact xiret (pc := 43) C0 hr hH hS dX10_itemAs_43 ⟨rfl, trivial⟩
    · have : Int64.toInt 0 = 0 := rfl
      have : Int64.toInt (x2.toInt64) = Int32.toInt x2 := Int32.toInt_toInt64 _
      have c4 := in_0i c4
      refine lv_iconst (pc := 27) (v := (-1)) C0.1 C0.2.1 dX10_itemAs_27 (by decide) ?_
      exact xiret (pc := 28) C0 hr hH hS dX10_itemAs_28 ⟨rfl, trivial⟩
  · have : Int32.toInt 1 = 1 := rfl
    have c1 : ¬ _ := fun q => c1 (Int32.toInt_inj.mp q)
    refine lv_bipush (pc := 8) (v := (-3)) C0.1 C0.2.1 dX10_itemAs_8 (by decide) ?_
    exact xiret (pc := 10) C0 hr hH hS dX10_itemAs_10 ⟨rfl, trivial⟩
