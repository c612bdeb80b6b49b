theorem dX8_hasShapeOf_119 : decode cX8_hasShapeOf 119 = .ok (.iload_n 3, 1) := by decide +kernel
theorem dX8_hasShapeOf_120 : decode cX8_hasShapeOf 120 = .ok (.aload_n 0, 1) := by decide +kernel
theorem dX8_hasShapeOf_121 : decode cX8_hasShapeOf 121 = .ok (.getfield 12, 3) := by decide +kernel
theorem dX8_hasShapeOf_124 : decode cX8_hasShapeOf 124 = .ok (.getfield 43, 3) := by decide +kernel
theorem dX8_hasShapeOf_127 : decode cX8_hasShapeOf 127 = .ok (.if_icmp .ge 53, 3) := by decide +kernel
theorem dX8_hasShapeOf_180 : decode cX8_hasShapeOf 180 = .ok (.iconst 1, 1) := by decide +kernel
theorem dX8_hasShapeOf_181 : decode cX8_hasShapeOf 181 = .ok (.ireturn, 1) := by decide +kernel
theorem dX8_hasShapeOf_130 : decode cX8_hasShapeOf 130 = .ok (.aload_n 0, 1) := by decide +kernel
theorem dX8_hasShapeOf_131 : decode cX8_hasShapeOf 131 = .ok (.getfield 12, 3) := by decide +kernel
theorem dX8_hasShapeOf_134 : decode cX8_hasShapeOf 134 = .ok (.getfield 98, 3) := by decide +kernel
theorem dX8_hasShapeOf_137 : decode cX8_hasShapeOf 137 = .ok (.iload_n 3, 1) := by decide +kernel
theorem dX8_hasShapeOf_138 : decode cX8_hasShapeOf 138 = .ok (.iaload, 1) := by decide +kernel
theorem dX8_hasShapeOf_139 : decode cX8_hasShapeOf 139 = .ok (.aload_n 1, 1) := by decide +kernel
theorem dX8_hasShapeOf_140 : decode cX8_hasShapeOf 140 = .ok (.getfield 12, 3) := by decide +kernel
theorem dX8_hasShapeOf_143 : decode cX8_hasShapeOf 143 = .ok (.getfield 98, 3) := by decide +kernel
theorem dX8_hasShapeOf_146 : decode cX8_hasShapeOf 146 = .ok (.iload_n 3, 1) := by decide +kernel
theorem dX8_hasShapeOf_147 : decode cX8_hasShapeOf 147 = .ok (.iaload, 1) := by decide +kernel
theorem dX8_hasShapeOf_148 : decode cX8_hasShapeOf 148 = .ok (.if_icmp .ne 24, 3) := by decide +kernel
theorem dX8_hasShapeOf_172 : decode cX8_hasShapeOf 172 = .ok (.iconst 0, 1) := by decide +kernel
theorem dX8_hasShapeOf_173 : decode cX8_hasShapeOf 173 = .ok (.ireturn, 1) := by decide +kernel
theorem dX8_hasShapeOf_151 : decode cX8_hasShapeOf 151 = .ok (.aload_n 0, 1) := by decide +kernel
theorem dX8_hasShapeOf_152 : decode cX8_hasShapeOf 152 = .ok (.getfield 12, 3) := by decide +kernel
theorem dX8_hasShapeOf_155 : decode cX8_hasShapeOf 155 = .ok (.getfield 88, 3) := by decide +kernel
theorem dX8_hasShapeOf_158 : decode cX8_hasShapeOf 158 = .ok (.iload_n 3, 1) := by decide +kernel
theorem dX8_hasShapeOf_159 : decode cX8_hasShapeOf 159 = .ok (.iaload, 1) := by decide +kernel
theorem dX8_hasShapeOf_160 : decode cX8_hasShapeOf 160 = .ok (.aload_n 1, 1) := by decide +kernel
theorem dX8_hasShapeOf_161 : decode cX8_hasShapeOf 161 = .ok (.getfield 12, 3) := by decide +kernel
theorem dX8_hasShapeOf_164 : decode cX8_hasShapeOf 164 = .ok (.getfield 88, 3) := by decide +kernel
theorem dX8_hasShapeOf_167 : decode cX8_hasShapeOf 167 = .ok (.iload_n 3, 1) := by decide +kernel
theorem dX8_hasShapeOf_168 : decode cX8_hasShapeOf 168 = .ok (.iaload, 1) := by decide +kernel
theorem dX8_hasShapeOf_169 : decode cX8_hasShapeOf 169 = .ok (.if_icmp .eq 5, 3) := by decide +kernel
theorem dX8_hasShapeOf_174 : decode cX8_hasShapeOf 174 = .ok (.iinc 3 1, 3) := by decide +kernel
theorem dX8_hasShapeOf_177 : decode cX8_hasShapeOf 177 = .ok (.goto (-58), 3) := by decide +kernel
theorem dX8_hasShapeOf_77 : decode cX8_hasShapeOf 77 = .ok (.iload_n 3, 1) := by decide +kernel
theorem dX8_hasShapeOf_78 : decode cX8_hasShapeOf 78 = .ok (.aload_n 0, 1) := by decide +kernel
theorem dX8_hasShapeOf_79 : decode cX8_hasShapeOf 79 = .ok (.getfield 21, 3) := by decide +kernel
theorem dX8_hasShapeOf_82 : decode cX8_hasShapeOf 82 = .ok (.getfield 46, 3) := by decide +kernel
theorem dX8_hasShapeOf_85 : decode cX8_hasShapeOf 85 = .ok (.if_icmp .ge 32, 3) := by decide +kernel
theorem dX8_hasShapeOf_117 : decode cX8_hasShapeOf 117 = .ok (.iconst 0, 1) := by decide +kernel
theorem dX8_hasShapeOf_118 : decode cX8_hasShapeOf 118 = .ok (.istore_n 3, 1) := by decide +kernel
theorem dX8_hasShapeOf_88 : decode cX8_hasShapeOf 88 = .ok (.aload_n 0, 1) := by decide +kernel
theorem dX8_hasShapeOf_89 : decode cX8_hasShapeOf 89 = .ok (.getfield 21, 3) := by decide +kernel
theorem dX8_hasShapeOf_92 : decode cX8_hasShapeOf 92 = .ok (.getfield 84, 3) := by decide +kernel
theorem dX8_hasShapeOf_95 : decode cX8_hasShapeOf 95 = .ok (.iload_n 3, 1) := by decide +kernel
theorem dX8_hasShapeOf_96 : decode cX8_hasShapeOf 96 = .ok (.iaload, 1) := by decide +kernel
theorem dX8_hasShapeOf_97 : decode cX8_hasShapeOf 97 = .ok (.aload_n 1, 1) := by decide +kernel
theorem dX8_hasShapeOf_98 : decode cX8_hasShapeOf 98 = .ok (.getfield 21, 3) := by decide +kernel
theorem dX8_hasShapeOf_101 : decode cX8_hasShapeOf 101 = .ok (.getfield 84, 3) := by decide +kernel
theorem dX8_hasShapeOf_104 : decode cX8_hasShapeOf 104 = .ok (.iload_n 3, 1) := by decide +kernel
theorem dX8_hasShapeOf_105 : decode cX8_hasShapeOf 105 = .ok (.iaload, 1) := by decide +kernel
theorem dX8_hasShapeOf_106 : decode cX8_hasShapeOf 106 = .ok (.if_icmp .eq 5, 3) := by decide +kernel
theorem dX8_hasShapeOf_111 : decode cX8_hasShapeOf 111 = .ok (.iinc 3 1, 3) := by decide +kernel
theorem dX8_hasShapeOf_114 : decode cX8_hasShapeOf 114 = .ok (.goto (-37), 3) := by decide +kernel
theorem dX8_hasShapeOf_109 : decode cX8_hasShapeOf 109 = .ok (.iconst 0, 1) := by decide +kernel
theorem dX8_hasShapeOf_110 : decode cX8_hasShapeOf 110 = .ok (.ireturn, 1) := by decide +kernel
theorem dX8_hasShapeOf_38 : decode cX8_hasShapeOf 38 = .ok (.iload_n 3, 1) := by decide +kernel
theorem dX8_hasShapeOf_39 : decode cX8_hasShapeOf 39 = .ok (.iload_n 2, 1) := by decide +kernel
theorem dX8_hasShapeOf_40 : decode cX8_hasShapeOf 40 = .ok (.if_icmp .ge 35, 3) := by decide +kernel
theorem dX8_hasShapeOf_75 : decode cX8_hasShapeOf 75 = .ok (.iconst 0, 1) := by decide +kernel
theorem dX8_hasShapeOf_76 : decode cX8_hasShapeOf 76 = .ok (.istore_n 3, 1) := by decide +kernel
theorem dX8_hasShapeOf_43 : decode cX8_hasShapeOf 43 = .ok (.iload_n 3, 1) := by decide +kernel
theorem dX8_hasShapeOf_44 : decode cX8_hasShapeOf 44 = .ok (.aload_n 0, 1) := by decide +kernel
theorem dX8_hasShapeOf_45 : decode cX8_hasShapeOf 45 = .ok (.getfield 25, 3) := by decide +kernel
theorem dX8_hasShapeOf_48 : decode cX8_hasShapeOf 48 = .ok (.arraylength, 1) := by decide +kernel
theorem dX8_hasShapeOf_49 : decode cX8_hasShapeOf 49 = .ok (.if_icmp .ge 26, 3) := by decide +kernel
theorem dX8_hasShapeOf_52 : decode cX8_hasShapeOf 52 = .ok (.aload_n 0, 1) := by decide +kernel
theorem dX8_hasShapeOf_53 : decode cX8_hasShapeOf 53 = .ok (.getfield 25, 3) := by decide +kernel
theorem dX8_hasShapeOf_56 : decode cX8_hasShapeOf 56 = .ok (.iload_n 3, 1) := by decide +kernel
theorem dX8_hasShapeOf_57 : decode cX8_hasShapeOf 57 = .ok (.iaload, 1) := by decide +kernel
theorem dX8_hasShapeOf_58 : decode cX8_hasShapeOf 58 = .ok (.aload_n 1, 1) := by decide +kernel
theorem dX8_hasShapeOf_59 : decode cX8_hasShapeOf 59 = .ok (.getfield 25, 3) := by decide +kernel
theorem dX8_hasShapeOf_62 : decode cX8_hasShapeOf 62 = .ok (.iload_n 3, 1) := by decide +kernel
theorem dX8_hasShapeOf_63 : decode cX8_hasShapeOf 63 = .ok (.iaload, 1) := by decide +kernel
theorem dX8_hasShapeOf_64 : decode cX8_hasShapeOf 64 = .ok (.if_icmp .eq 5, 3) := by decide +kernel
theorem dX8_hasShapeOf_69 : decode cX8_hasShapeOf 69 = .ok (.iinc 3 1, 3) := by decide +kernel
theorem dX8_hasShapeOf_72 : decode cX8_hasShapeOf 72 = .ok (.goto (-34), 3) := by decide +kernel
theorem dX8_hasShapeOf_67 : decode cX8_hasShapeOf 67 = .ok (.iconst 0, 1) := by decide +kernel
theorem dX8_hasShapeOf_68 : decode cX8_hasShapeOf 68 = .ok (.ireturn, 1) := by decide +kernel
theorem dX8_hasShapeOf_0 : decode cX8_hasShapeOf 0 = .ok (.aload_n 0, 1) := by decide +kernel
theorem dX8_hasShapeOf_1 : decode cX8_hasShapeOf 1 = .ok (.getfield 12, 3) := by decide +kernel
theorem dX8_hasShapeOf_4 : decode cX8_hasShapeOf 4 = .ok (.getfield 43, 3) := by decide +kernel
theorem dX8_hasShapeOf_7 : decode cX8_hasShapeOf 7 = .ok (.aload_n 1, 1) := by decide +kernel
theorem dX8_hasShapeOf_8 : decode cX8_hasShapeOf 8 = .ok (.getfield 12, 3) := by decide +kernel
theorem dX8_hasShapeOf_11 : decode cX8_hasShapeOf 11 = .ok (.getfield 43, 3) := by decide +kernel
theorem dX8_hasShapeOf_14 : decode cX8_hasShapeOf 14 = .ok (.if_icmp .ne 20, 3) := by decide +kernel
theorem dX8_hasShapeOf_34 : decode cX8_hasShapeOf 34 = .ok (.iconst 0, 1) := by decide +kernel
theorem dX8_hasShapeOf_35 : decode cX8_hasShapeOf 35 = .ok (.ireturn, 1) := by decide +kernel
theorem dX8_hasShapeOf_17 : decode cX8_hasShapeOf 17 = .ok (.aload_n 0, 1) := by decide +kernel
theorem dX8_hasShapeOf_18 : decode cX8_hasShapeOf 18 = .ok (.getfield 21, 3) := by decide +kernel
theorem dX8_hasShapeOf_21 : decode cX8_hasShapeOf 21 = .ok (.getfield 46, 3) := by decide +kernel
theorem dX8_hasShapeOf_24 : decode cX8_hasShapeOf 24 = .ok (.aload_n 1, 1) := by decide +kernel
theorem dX8_hasShapeOf_25 : decode cX8_hasShapeOf 25 = .ok (.getfield 21, 3) := by decide +kernel
theorem dX8_hasShapeOf_28 : decode cX8_hasShapeOf 28 = .ok (.getfield 46, 3) := by decide +kernel
theorem dX8_hasShapeOf_31 : decode cX8_hasShapeOf 31 = .ok (.if_icmp .eq 5, 3) := by decide +kernel
theorem dX8_hasShapeOf_36 : decode cX8_hasShapeOf 36 = .ok (.iconst 0, 1) := by decide +kernel
theorem dX8_hasShapeOf_37 : decode cX8_hasShapeOf 37 = .ok (.istore_n 3, 1) := by decide +kernel
set_option maxHeartbeats 4000000 in
set_option maxRecDepth 100000 in
theorem g_X8_hasShapeOf (l : Launch) (D : va_G) (tA : Nat → ClassId) (b : Nat) (i F : Nat → Nat → Int32) (G : Nat → Nat → Int64) (x : Int32) (hF : Tf17 i F) (hG : Tf48 i F) : xMI l yX8_hasShapeOf cX8_hasShapeOf 4 (some .boolean) 0 0 D tA b 0 78 i F G [.ref (b + 17), .ref (b + 48), .int x] (fun r u => u = (i, F, G) ∧ (r.toInt = 0 ∨ r.toInt = 1)) := by
  refine xstart RX8 rfl (by decide) (Nat.le_of_ble_eq_true rfl) ?_
  intro p e s m below meth c ls C0 hr hH hS hl
  have hl : lv_has ls 4 [(0, .ref (b + 17)), (1, .ref (b + 48)), (2, .int x)] := hl
  have rg_x := fb_rng x
  have hL := Tf17.lin hF
  have hL2 := Tf48.lin hG
  have h6 : Int32.toInt (nI 600) = 600 := rfl
  have L119 : ∀ (d : Nat) (k : Int32) (H : Heap) (locs : List Loc) (ls : Array Slot), (0 ≤ k.toInt) → ((i 18 9).toInt - k.toInt ≤ d) → Hd D tA b 0 78 zz i F G H → va_S (xA b 0 78) s.heap H locs → lv_has ls 4 [(3, .int k), (0, .ref (b + 17)), (1, .ref (b + 48)), (2, .int x)] → W p l e (xR 0 0) s m ([.ref (b + 17), .ref (b + 48), .int x] : List Value).toArray below meth c H locs 0 0 (MQ below (va_Qi (fun r u => u = (i, F, G) ∧ (r.toInt = 0 ∨ r.toInt = 1)) (xB D tA b 0 78 zz) (xA b 0 78)) ([.ref (b + 17), .ref (b + 48), .int x] : List Value).toArray s 0 0 (xA b 0 78)) (F0 m 119 ls []) := by
    intro d
    induction d with
    | zero =>
      intro k H locs ls h1 h2 hH hS hl
      have rg_k := fb_rng k
      refine lv_iload_n (pc := 119) C0.1 C0.2.1 dX8_hasShapeOf_119 rfl (lv_at hl 0 rfl) ?_
      refine lv_aload_n (pc := 120) C0.1 C0.2.1 dX8_hasShapeOf_120 rfl (lv_at hl 1 rfl) ?_
      refine xget (pc := 121) C0 hH 17 0 clX8 ⟨Nat.le_of_ble_eq_true rfl, Nat.le_of_ble_eq_true rfl⟩ ⟨rfl, rfl⟩ (Nat.le_of_ble_eq_true rfl) fl_X8_12 (v := .ref (b + 18)) rfl dX8_hasShapeOf_121 ?_
      refine xget (pc := 124) C0 hH 18 9 clX0 ⟨Nat.le_of_ble_eq_true rfl, Nat.le_of_ble_eq_true rfl⟩ ⟨rfl, rfl⟩ (Nat.le_of_ble_eq_true rfl) fl_X8_43 (v := .int (i 18 9)) rfl dX8_hasShapeOf_124 ?_
      refine lv_icmp_ge (pc := 127) (tgt := 180) C0.1 C0.2.1 dX8_hasShapeOf_127 (by decide) (fun _ => ?_) (fun c => absurd (Int32.le_iff_toInt_le.mpr (by omega)) c)
      refine lv_iconst (pc := 180) (v := 1) C0.1 C0.2.1 dX8_hasShapeOf_180 (by decide) ?_
      exact xzret (pc := 181) C0 hr hH hS dX8_hasShapeOf_181 (by decide) ⟨rfl, by decide⟩
    | succ d ih119 =>
      intro k H locs ls h1 h2 hH hS hl
      have rg_k := fb_rng k
      refine lv_iload_n (pc := 119) C0.1 C0.2.1 dX8_hasShapeOf_119 rfl (lv_at hl 0 rfl) ?_
      refine lv_aload_n (pc := 120) C0.1 C0.2.1 dX8_hasShapeOf_120 rfl (lv_at hl 1 rfl) ?_
      refine xget (pc := 121) C0 hH 17 0 clX8 ⟨Nat.le_of_ble_eq_true rfl, Nat.le_of_ble_eq_true rfl⟩ ⟨rfl, rfl⟩ (Nat.le_of_ble_eq_true rfl) fl_X8_12 (v := .ref (b + 18)) rfl dX8_hasShapeOf_121 ?_
      refine xget (pc := 124) C0 hH 18 9 clX0 ⟨Nat.le_of_ble_eq_true rfl, Nat.le_of_ble_eq_true rfl⟩ ⟨rfl, rfl⟩ (Nat.le_of_ble_eq_true rfl) fl_X8_43 (v := .int (i 18 9)) rfl dX8_hasShapeOf_124 ?_
      refine lv_icmp_ge (pc := 127) (tgt := 180) C0.1 C0.2.1 dX8_hasShapeOf_127 (by decide) (fun c201 => ?_) (fun c201 => ?_)
      · have c201 := Int32.le_iff_toInt_le.mp c201
        refine lv_iconst (pc := 180) (v := 1) C0.1 C0.2.1 dX8_hasShapeOf_180 (by decide) ?_
        exact xzret (pc := 181) C0 hr hH hS dX8_hasShapeOf_181 (by decide) ⟨rfl, by decide⟩
      · have c201 : ¬ _ := fun q => c201 (Int32.le_iff_toInt_le.mpr q)
        refine lv_aload_n (pc := 130) C0.1 C0.2.1 dX8_hasShapeOf_130 rfl (lv_at hl 1 rfl) ?_
        refine xget (pc := 131) C0 hH 17 0 clX8 ⟨Nat.le_of_ble_eq_true rfl, Nat.le_of_ble_eq_true rfl⟩ ⟨rfl, rfl⟩ (Nat.le_of_ble_eq_true rfl) fl_X8_12 (v := .ref (b + 18)) rfl dX8_hasShapeOf_131 ?_
        refine xget (pc := 134) C0 hH 18 0 clX0 ⟨Nat.le_of_ble_eq_true rfl, Nat.le_of_ble_eq_true rfl⟩ ⟨rfl, rfl⟩ (Nat.le_of_ble_eq_true rfl) fl_X8_98 (v := .ref (b + 19)) rfl dX8_hasShapeOf_134 ?_
        refine lv_iload_n (pc := 137) C0.1 C0.2.1 dX8_hasShapeOf_137 rfl (lv_at hl 0 rfl) ?_
        refine xiald (pc := 138) (N := 601) C0 hH 19 ⟨Nat.le_of_ble_eq_true rfl, Nat.le_of_ble_eq_true rfl⟩ ⟨rfl, rfl⟩ (vI (by omega) (by omega)) dX8_hasShapeOf_138 ?_
        refine lv_aload_n (pc := 139) C0.1 C0.2.1 dX8_hasShapeOf_139 rfl (lv_at hl 2 rfl) ?_
        refine xget (pc := 140) C0 hH 48 0 clX8 ⟨Nat.le_of_ble_eq_true rfl, Nat.le_of_ble_eq_true rfl⟩ ⟨rfl, rfl⟩ (Nat.le_of_ble_eq_true rfl) fl_X8_12 (v := .ref (b + 49)) rfl dX8_hasShapeOf_140 ?_
        refine xget (pc := 143) C0 hH 49 0 clX0 ⟨Nat.le_of_ble_eq_true rfl, Nat.le_of_ble_eq_true rfl⟩ ⟨rfl, rfl⟩ (Nat.le_of_ble_eq_true rfl) fl_X8_98 (v := .ref (b + 50)) rfl dX8_hasShapeOf_143 ?_
        refine lv_iload_n (pc := 146) C0.1 C0.2.1 dX8_hasShapeOf_146 rfl (lv_at hl 0 rfl) ?_
        refine xiald (pc := 147) (N := 601) C0 hH 50 ⟨Nat.le_of_ble_eq_true rfl, Nat.le_of_ble_eq_true rfl⟩ ⟨rfl, rfl⟩ (vI (by omega) (by omega)) dX8_hasShapeOf_147 ?_
        refine lv_icmp_ne (pc := 148) (tgt := 172) C0.1 C0.2.1 dX8_hasShapeOf_148 (by decide) (fun c202 => ?_) (fun c202 => ?_)
        · have c202 : ¬ _ := fun q => c202 (Int32.toInt_inj.mp q)
          refine lv_iconst (pc := 172) (v := 0) C0.1 C0.2.1 dX8_hasShapeOf_172 (by decide) ?_
          exact xzret (pc := 173) C0 hr hH hS dX8_hasShapeOf_173 (by decide) ⟨rfl, by decide⟩
        · have c202 := congrArg Int32.toInt c202
          refine lv_aload_n (pc := 151) C0.1 C0.2.1 dX8_hasShapeOf_151 rfl (lv_at hl 1 rfl) ?_
          refine xget (pc := 152) C0 hH 17 0 clX8 ⟨Nat.le_of_ble_eq_true rfl, Nat.le_of_ble_eq_true rfl⟩ ⟨rfl, rfl⟩ (Nat.le_of_ble_eq_true rfl) fl_X8_12 (v := .ref (b + 18)) rfl dX8_hasShapeOf_152 ?_
          refine xget (pc := 155) C0 hH 18 2 clX0 ⟨Nat.le_of_ble_eq_true rfl, Nat.le_of_ble_eq_true rfl⟩ ⟨rfl, rfl⟩ (Nat.le_of_ble_eq_true rfl) fl_X8_88 (v := .ref (b + 21)) rfl dX8_hasShapeOf_155 ?_
          refine lv_iload_n (pc := 158) C0.1 C0.2.1 dX8_hasShapeOf_158 rfl (lv_at hl 0 rfl) ?_
          refine xiald (pc := 159) (N := 601) C0 hH 21 ⟨Nat.le_of_ble_eq_true rfl, Nat.le_of_ble_eq_true rfl⟩ ⟨rfl, rfl⟩ (vI (by omega) (by omega)) dX8_hasShapeOf_159 ?_
          refine lv_aload_n (pc := 160) C0.1 C0.2.1 dX8_hasShapeOf_160 rfl (lv_at hl 2 rfl) ?_
          refine xget (pc := 161) C0 hH 48 0 clX8 ⟨Nat.le_of_ble_eq_true rfl, Nat.le_of_ble_eq_true rfl⟩ ⟨rfl, rfl⟩ (Nat.le_of_ble_eq_true rfl) fl_X8_12 (v := .ref (b + 49)) rfl dX8_hasShapeOf_161 ?_
          refine xget (pc := 164) C0 hH 49 2 clX0 ⟨Nat.le_of_ble_eq_true rfl, Nat.le_of_ble_eq_true rfl⟩ ⟨rfl, rfl⟩ (Nat.le_of_ble_eq_true rfl) fl_X8_88 (v := .ref (b + 52)) rfl dX8_hasShapeOf_164 ?_
          refine lv_iload_n (pc := 167) C0.1 C0.2.1 dX8_hasShapeOf_167 rfl (lv_at hl 0 rfl) ?_
          refine xiald (pc := 168) (N := 601) C0 hH 52 ⟨Nat.le_of_ble_eq_true rfl, Nat.le_of_ble_eq_true rfl⟩ ⟨rfl, rfl⟩ (vI (by omega) (by omega)) dX8_hasShapeOf_168 ?_
          refine lv_icmp_eq (pc := 169) (tgt := 174) C0.1 C0.2.1 dX8_hasShapeOf_169 (by decide) (fun c203 => ?_) (fun c203 => ?_)
          · have c203 := congrArg Int32.toInt c203
            obtain ⟨x204, ex204⟩ : ∃ y_ : Int32, y_ = k + 1 := ⟨_, rfl⟩
            have : Int32.toInt 1 = 1 := rfl
            have hx204 : Int32.toInt x204 = Int32.toInt k + Int32.toInt 1 := by rw [ex204]; exact fb_addI (by omega) (by omega)
            refine lv_iinc (pc := 174) (v := x204) (lv' := [(3, .int x204), (0, .ref (b + 17)), (1, .ref (b + 48)), (2, .int x)]) C0.1 C0.2.1 dX8_hasShapeOf_174 hl (k := 0) rfl (by rw [ex204]; rfl) (by decide) rfl (fun ls hl => ?_)
            refine lv_goto (pc := 177) (tgt := 119) C0.1 C0.2.1 dX8_hasShapeOf_177 (by decide) ?_
            exact ih119 x204 _ _ _ (by omega) (by omega) hH hS (lv_sub hl [0, 1, 2, 3] rfl)
          · have c203 : ¬ _ := fun q => c203 (Int32.toInt_inj.mp q)
            refine lv_iconst (pc := 172) (v := 0) C0.1 C0.2.1 dX8_hasShapeOf_172 (by decide) ?_
            exact xzret (pc := 173) C0 hr hH hS dX8_hasShapeOf_173 (by decide) ⟨rfl, by decide⟩
  have L77 : ∀ (d : Nat) (k : Int32) (H : Heap) (locs : List Loc) (ls : Array Slot), (0 ≤ k.toInt) → ((i 28 5).toInt - k.toInt ≤ d) → Hd D tA b 0 78 zz i F G H → va_S (xA b 0 78) s.heap H locs → lv_has ls 4 [(3, .int k), (0, .ref (b + 17)), (1, .ref (b + 48)), (2, .int x)] → W p l e (xR 0 0) s m ([.ref (b + 17), .ref (b + 48), .int x] : List Value).toArray below meth c H locs 0 0 (MQ below (va_Qi (fun r u => u = (i, F, G) ∧ (r.toInt = 0 ∨ r.toInt = 1)) (xB D tA b 0 78 zz) (xA b 0 78)) ([.ref (b + 17), .ref (b + 48), .int x] : List Value).toArray s 0 0 (xA b 0 78)) (F0 m 77 ls []) := by
    intro d
    induction d with
    | zero =>
      intro k H locs ls h1 h2 hH hS hl
      have rg_k := fb_rng k
      refine lv_iload_n (pc := 77) C0.1 C0.2.1 dX8_hasShapeOf_77 rfl (lv_at hl 0 rfl) ?_
      refine lv_aload_n (pc := 78) C0.1 C0.2.1 dX8_hasShapeOf_78 rfl (lv_at hl 1 rfl) ?_
      refine xget (pc := 79) C0 hH 17 1 clX8 ⟨Nat.le_of_ble_eq_true rfl, Nat.le_of_ble_eq_true rfl⟩ ⟨rfl, rfl⟩ (Nat.le_of_ble_eq_true rfl) fl_X8_21 (v := .ref (b + 28)) rfl dX8_hasShapeOf_79 ?_
      refine xget (pc := 82) C0 hH 28 5 clX2 ⟨Nat.le_of_ble_eq_true rfl, Nat.le_of_ble_eq_true rfl⟩ ⟨rfl, rfl⟩ (Nat.le_of_ble_eq_true rfl) fl_X8_46 (v := .int (i 28 5)) rfl dX8_hasShapeOf_82 ?_
      refine lv_icmp_ge (pc := 85) (tgt := 117) C0.1 C0.2.1 dX8_hasShapeOf_85 (by decide) (fun _ => ?_) (fun c => absurd (Int32.le_iff_toInt_le.mpr (by omega)) c)
      refine lv_iconst (pc := 117) (v := 0) C0.1 C0.2.1 dX8_hasShapeOf_117 (by decide) ?_
      refine lv_istore_n (pc := 118) (lv' := [(3, .int 0), (0, .ref (b + 17)), (1, .ref (b + 48)), (2, .int x)]) C0.1 C0.2.1 dX8_hasShapeOf_118 rfl hl (by decide) rfl (fun ls hl => ?_)
      exact L119 601 0 _ _ _ (by have : Int32.toInt 0 = 0 := rfl; omega) (by have : Int32.toInt 0 = 0 := rfl; omega) hH hS (lv_sub hl [0, 1, 2, 3] rfl)
    | succ d ih77 =>
      intro k H locs ls h1 h2 hH hS hl
      have rg_k := fb_rng k
      refine lv_iload_n (pc := 77) C0.1 C0.2.1 dX8_hasShapeOf_77 rfl (lv_at hl 0 rfl) ?_
      refine lv_aload_n (pc := 78) C0.1 C0.2.1 dX8_hasShapeOf_78 rfl (lv_at hl 1 rfl) ?_
      refine xget (pc := 79) C0 hH 17 1 clX8 ⟨Nat.le_of_ble_eq_true rfl, Nat.le_of_ble_eq_true rfl⟩ ⟨rfl, rfl⟩ (Nat.le_of_ble_eq_true rfl) fl_X8_21 (v := .ref (b + 28)) rfl dX8_hasShapeOf_79 ?_
      refine xget (pc := 82) C0 hH 28 5 clX2 ⟨Nat.le_of_ble_eq_true rfl, Nat.le_of_ble_eq_true rfl⟩ ⟨rfl, rfl⟩ (Nat.le_of_ble_eq_true rfl) fl_X8_46 (v := .int (i 28 5)) rfl dX8_hasShapeOf_82 ?_
      refine lv_icmp_ge (pc := 85) (tgt := 117) C0.1 C0.2.1 dX8_hasShapeOf_85 (by decide) (fun c201 => ?_) (fun c201 => ?_)
      · have c201 := Int32.le_iff_toInt_le.mp c201
        refine lv_iconst (pc := 117) (v := 0) C0.1 C0.2.1 dX8_hasShapeOf_117 (by decide) ?_
        refine lv_istore_n (pc := 118) (lv' := [(3, .int 0), (0, .ref (b + 17)), (1, .ref (b + 48)), (2, .int x)]) C0.1 C0.2.1 dX8_hasShapeOf_118 rfl hl (by decide) rfl (fun ls hl => ?_)
        exact L119 601 0 _ _ _ (by have : Int32.toInt 0 = 0 := rfl; omega) (by have : Int32.toInt 0 = 0 := rfl; omega) hH hS (lv_sub hl [0, 1, 2, 3] rfl)
      · have c201 : ¬ _ := fun q => c201 (Int32.le_iff_toInt_le.mpr q)
        refine lv_aload_n (pc := 88) C0.1 C0.2.1 dX8_hasShapeOf_88 rfl (lv_at hl 1 rfl) ?_
        refine xget (pc := 89) C0 hH 17 1 clX8 ⟨Nat.le_of_ble_eq_true rfl, Nat.le_of_ble_eq_true rfl⟩ ⟨rfl, rfl⟩ (Nat.le_of_ble_eq_true rfl) fl_X8_21 (v := .ref (b + 28)) rfl dX8_hasShapeOf_89 ?_
        refine xget (pc := 92) C0 hH 28 0 clX2 ⟨Nat.le_of_ble_eq_true rfl, Nat.le_of_ble_eq_true rfl⟩ ⟨rfl, rfl⟩ (Nat.le_of_ble_eq_true rfl) fl_X8_84 (v := .ref (b + 29)) rfl dX8_hasShapeOf_92 ?_
        refine lv_iload_n (pc := 95) C0.1 C0.2.1 dX8_hasShapeOf_95 rfl (lv_at hl 0 rfl) ?_
        refine xiald (pc := 96) (N := 1200) C0 hH 29 ⟨Nat.le_of_ble_eq_true rfl, Nat.le_of_ble_eq_true rfl⟩ ⟨rfl, rfl⟩ (vI (by omega) (by omega)) dX8_hasShapeOf_96 ?_
        refine lv_aload_n (pc := 97) C0.1 C0.2.1 dX8_hasShapeOf_97 rfl (lv_at hl 2 rfl) ?_
        refine xget (pc := 98) C0 hH 48 1 clX8 ⟨Nat.le_of_ble_eq_true rfl, Nat.le_of_ble_eq_true rfl⟩ ⟨rfl, rfl⟩ (Nat.le_of_ble_eq_true rfl) fl_X8_21 (v := .ref (b + 59)) rfl dX8_hasShapeOf_98 ?_
        refine xget (pc := 101) C0 hH 59 0 clX2 ⟨Nat.le_of_ble_eq_true rfl, Nat.le_of_ble_eq_true rfl⟩ ⟨rfl, rfl⟩ (Nat.le_of_ble_eq_true rfl) fl_X8_84 (v := .ref (b + 60)) rfl dX8_hasShapeOf_101 ?_
        refine lv_iload_n (pc := 104) C0.1 C0.2.1 dX8_hasShapeOf_104 rfl (lv_at hl 0 rfl) ?_
        refine xiald (pc := 105) (N := 1200) C0 hH 60 ⟨Nat.le_of_ble_eq_true rfl, Nat.le_of_ble_eq_true rfl⟩ ⟨rfl, rfl⟩ (vI (by omega) (by omega)) dX8_hasShapeOf_105 ?_
        refine lv_icmp_eq (pc := 106) (tgt := 111) C0.1 C0.2.1 dX8_hasShapeOf_106 (by decide) (fun c202 => ?_) (fun c202 => ?_)
        · have c202 := congrArg Int32.toInt c202
          obtain ⟨x203, ex203⟩ : ∃ y_ : Int32, y_ = k + 1 := ⟨_, rfl⟩
          have : Int32.toInt 1 = 1 := rfl
          have hx203 : Int32.toInt x203 = Int32.toInt k + Int32.toInt 1 := by rw [ex203]; exact fb_addI (by omega) (by omega)
          refine lv_iinc (pc := 111) (v := x203) (lv' := [(3, .int x203), (0, .ref (b + 17)), (1, .ref (b + 48)), (2, .int x)]) C0.1 C0.2.1 dX8_hasShapeOf_111 hl (k := 0) rfl (by rw [ex203]; rfl) (by decide) rfl (fun ls hl => ?_)
          refine lv_goto (pc := 114) (tgt := 77) C0.1 C0.2.1 dX8_hasShapeOf_114 (by decide) ?_
          exact ih77 x203 _ _ _ (by omega) (by omega) hH hS (lv_sub hl [0, 1, 2, 3] rfl)
        · have c202 : ¬ _ := fun q => c202 (Int32.toInt_inj.mp q)
          refine lv_iconst (pc := 109) (v := 0) C0.1 C0.2.1 dX8_hasShapeOf_109 (by decide) ?_
          exact xzret (pc := 110) C0 hr hH hS dX8_hasShapeOf_110 (by decide) ⟨rfl, by decide⟩
  have L38 : ∀ (d : Nat) (k : Int32) (H : Heap) (locs : List Loc) (ls : Array Slot), (0 ≤ k.toInt) → (600 - k.toInt ≤ d) → Hd D tA b 0 78 zz i F G H → va_S (xA b 0 78) s.heap H locs → lv_has ls 4 [(3, .int k), (0, .ref (b + 17)), (1, .ref (b + 48)), (2, .int x)] → W p l e (xR 0 0) s m ([.ref (b + 17), .ref (b + 48), .int x] : List Value).toArray below meth c H locs 0 0 (MQ below (va_Qi (fun r u => u = (i, F, G) ∧ (r.toInt = 0 ∨ r.toInt = 1)) (xB D tA b 0 78 zz) (xA b 0 78)) ([.ref (b + 17), .ref (b + 48), .int x] : List Value).toArray s 0 0 (xA b 0 78)) (F0 m 38 ls []) := by
    intro d
    induction d with
    | zero =>
      intro k H locs ls h1 h2 hH hS hl
      have rg_k := fb_rng k
      refine lv_iload_n (pc := 38) C0.1 C0.2.1 dX8_hasShapeOf_38 rfl (lv_at hl 0 rfl) ?_
      refine lv_iload_n (pc := 39) C0.1 C0.2.1 dX8_hasShapeOf_39 rfl (lv_at hl 3 rfl) ?_
      refine lv_icmp_ge (pc := 40) (tgt := 75) C0.1 C0.2.1 dX8_hasShapeOf_40 (by decide) (fun c201 => ?_) (fun c201 => ?_)
      · have c201 := Int32.le_iff_toInt_le.mp c201
        refine lv_iconst (pc := 75) (v := 0) C0.1 C0.2.1 dX8_hasShapeOf_75 (by decide) ?_
        refine lv_istore_n (pc := 76) (lv' := [(3, .int 0), (0, .ref (b + 17)), (1, .ref (b + 48)), (2, .int x)]) C0.1 C0.2.1 dX8_hasShapeOf_76 rfl hl (by decide) rfl (fun ls hl => ?_)
        exact L77 1200 0 _ _ _ (by have : Int32.toInt 0 = 0 := rfl; omega) (by have : Int32.toInt 0 = 0 := rfl; omega) hH hS (lv_sub hl [0, 1, 2, 3] rfl)
      · have c201 : ¬ _ := fun q => c201 (Int32.le_iff_toInt_le.mpr q)
        refine lv_iload_n (pc := 43) C0.1 C0.2.1 dX8_hasShapeOf_43 rfl (lv_at hl 0 rfl) ?_
        refine lv_aload_n (pc := 44) C0.1 C0.2.1 dX8_hasShapeOf_44 rfl (lv_at hl 1 rfl) ?_
        refine xget (pc := 45) C0 hH 17 2 clX8 ⟨Nat.le_of_ble_eq_true rfl, Nat.le_of_ble_eq_true rfl⟩ ⟨rfl, rfl⟩ (Nat.le_of_ble_eq_true rfl) fl_X8_25 (v := .ref (b + 36)) rfl dX8_hasShapeOf_45 ?_
        refine xalen (pc := 48) (N := 600) (t := 50) C0 hH 36 ⟨Nat.le_of_ble_eq_true rfl, Nat.le_of_ble_eq_true rfl⟩ ⟨rfl, rfl⟩ (by decide) dX8_hasShapeOf_48 ?_
        have : Int32.toInt (nI 600) = 600 := rfl
        refine lv_icmp_ge (pc := 49) (tgt := 75) C0.1 C0.2.1 dX8_hasShapeOf_49 (by decide) (fun _ => ?_) (fun c => absurd (Int32.le_iff_toInt_le.mpr (by omega)) c)
        refine lv_iconst (pc := 75) (v := 0) C0.1 C0.2.1 dX8_hasShapeOf_75 (by decide) ?_
        refine lv_istore_n (pc := 76) (lv' := [(3, .int 0), (0, .ref (b + 17)), (1, .ref (b + 48)), (2, .int x)]) C0.1 C0.2.1 dX8_hasShapeOf_76 rfl hl (by decide) rfl (fun ls hl => ?_)
        exact L77 1200 0 _ _ _ (by have : Int32.toInt 0 = 0 := rfl; omega) (by have : Int32.toInt 0 = 0 := rfl; omega) hH hS (lv_sub hl [0, 1, 2, 3] rfl)
    | succ d ih38 =>
      intro k H locs ls h1 h2 hH hS hl
      have rg_k := fb_rng k
      refine lv_iload_n (pc := 38) C0.1 C0.2.1 dX8_hasShapeOf_38 rfl (lv_at hl 0 rfl) ?_
      refine lv_iload_n (pc := 39) C0.1 C0.2.1 dX8_hasShapeOf_39 rfl (lv_at hl 3 rfl) ?_
      refine lv_icmp_ge (pc := 40) (tgt := 75) C0.1 C0.2.1 dX8_hasShapeOf_40 (by decide) (fun c201 => ?_) (fun c201 => ?_)
      · have c201 := Int32.le_iff_toInt_le.mp c201
        refine lv_iconst (pc := 75) (v := 0) C0.1 C0.2.1 dX8_hasShapeOf_75 (by decide) ?_
        refine lv_istore_n (pc := 76) (lv' := [(3, .int 0), (0, .ref (b + 17)), (1, .ref (b + 48)), (2, .int x)]) C0.1 C0.2.1 dX8_hasShapeOf_76 rfl hl (by decide) rfl (fun ls hl => ?_)
        exact L77 1200 0 _ _ _ (by have : Int32.toInt 0 = 0 := rfl; omega) (by have : Int32.toInt 0 = 0 := rfl; omega) hH hS (lv_sub hl [0, 1, 2, 3] rfl)
      · have c201 : ¬ _ := fun q => c201 (Int32.le_iff_toInt_le.mpr q)
        refine lv_iload_n (pc := 43) C0.1 C0.2.1 dX8_hasShapeOf_43 rfl (lv_at hl 0 rfl) ?_
        refine lv_aload_n (pc := 44) C0.1 C0.2.1 dX8_hasShapeOf_44 rfl (lv_at hl 1 rfl) ?_
        refine xget (pc := 45) C0 hH 17 2 clX8 ⟨Nat.le_of_ble_eq_true rfl, Nat.le_of_ble_eq_true rfl⟩ ⟨rfl, rfl⟩ (Nat.le_of_ble_eq_true rfl) fl_X8_25 (v := .ref (b + 36)) rfl dX8_hasShapeOf_45 ?_
        refine xalen (pc := 48) (N := 600) (t := 50) C0 hH 36 ⟨Nat.le_of_ble_eq_true rfl, Nat.le_of_ble_eq_true rfl⟩ ⟨rfl, rfl⟩ (by decide) dX8_hasShapeOf_48 ?_
        refine lv_icmp_ge (pc := 49) (tgt := 75) C0.1 C0.2.1 dX8_hasShapeOf_49 (by decide) (fun c202 => ?_) (fun c202 => ?_)
        · have c202 := Int32.le_iff_toInt_le.mp c202
          refine lv_iconst (pc := 75) (v := 0) C0.1 C0.2.1 dX8_hasShapeOf_75 (by decide) ?_
          refine lv_istore_n (pc := 76) (lv' := [(3, .int 0), (0, .ref (b + 17)), (1, .ref (b + 48)), (2, .int x)]) C0.1 C0.2.1 dX8_hasShapeOf_76 rfl hl (by decide) rfl (fun ls hl => ?_)
          exact L77 1200 0 _ _ _ (by have : Int32.toInt 0 = 0 := rfl; omega) (by have : Int32.toInt 0 = 0 := rfl; omega) hH hS (lv_sub hl [0, 1, 2, 3] rfl)
        · have c202 : ¬ _ := fun q => c202 (Int32.le_iff_toInt_le.mpr q)
          refine lv_aload_n (pc := 52) C0.1 C0.2.1 dX8_hasShapeOf_52 rfl (lv_at hl 1 rfl) ?_
          refine xget (pc := 53) C0 hH 17 2 clX8 ⟨Nat.le_of_ble_eq_true rfl, Nat.le_of_ble_eq_true rfl⟩ ⟨rfl, rfl⟩ (Nat.le_of_ble_eq_true rfl) fl_X8_25 (v := .ref (b + 36)) rfl dX8_hasShapeOf_53 ?_
          refine lv_iload_n (pc := 56) C0.1 C0.2.1 dX8_hasShapeOf_56 rfl (lv_at hl 0 rfl) ?_
          refine xiald (pc := 57) (N := 600) C0 hH 36 ⟨Nat.le_of_ble_eq_true rfl, Nat.le_of_ble_eq_true rfl⟩ ⟨rfl, rfl⟩ (vI (by omega) (by omega)) dX8_hasShapeOf_57 ?_
          refine lv_aload_n (pc := 58) C0.1 C0.2.1 dX8_hasShapeOf_58 rfl (lv_at hl 2 rfl) ?_
          refine xget (pc := 59) C0 hH 48 2 clX8 ⟨Nat.le_of_ble_eq_true rfl, Nat.le_of_ble_eq_true rfl⟩ ⟨rfl, rfl⟩ (Nat.le_of_ble_eq_true rfl) fl_X8_25 (v := .ref (b + 67)) rfl dX8_hasShapeOf_59 ?_
          refine lv_iload_n (pc := 62) C0.1 C0.2.1 dX8_hasShapeOf_62 rfl (lv_at hl 0 rfl) ?_
          refine xiald (pc := 63) (N := 600) C0 hH 67 ⟨Nat.le_of_ble_eq_true rfl, Nat.le_of_ble_eq_true rfl⟩ ⟨rfl, rfl⟩ (vI (by omega) (by omega)) dX8_hasShapeOf_63 ?_
          refine lv_icmp_eq (pc := 64) (tgt := 69) C0.1 C0.2.1 dX8_hasShapeOf_64 (by decide) (fun c203 => ?_) (fun c203 => ?_)
          · have c203 := congrArg Int32.toInt c203
            obtain ⟨x204, ex204⟩ : ∃ y_ : Int32, y_ = k + 1 := ⟨_, rfl⟩
            have : Int32.toInt 1 = 1 := rfl
            have hx204 : Int32.toInt x204 = Int32.toInt k + Int32.toInt 1 := by rw [ex204]; exact fb_addI (by omega) (by omega)
            refine lv_iinc (pc := 69) (v := x204) (lv' := [(3, .int x204), (0, .ref (b + 17)), (1, .ref (b + 48)), (2, .int x)]) C0.1 C0.2.1 dX8_hasShapeOf_69 hl (k := 0) rfl (by rw [ex204]; rfl) (by decide) rfl (fun ls hl => ?_)
            refine lv_goto (pc := 72) (tgt := 38) C0.1 C0.2.1 dX8_hasShapeOf_72 (by decide) ?_
            exact ih38 x204 _ _ _ (by omega) (by omega) hH hS (lv_sub hl [0, 1, 2, 3] rfl)
          · have c203 : ¬ _ := fun q => c203 (Int32.toInt_inj.mp q)
            refine lv_iconst (pc := 67) (v := 0) C0.1 C0.2.1 dX8_hasShapeOf_67 (by decide) ?_
            exact xzret (pc := 68) C0 hr hH hS dX8_hasShapeOf_68 (by decide) ⟨rfl, by decide⟩
  refine lv_aload_n (pc := 0) C0.1 C0.2.1 dX8_hasShapeOf_0 rfl (lv_at hl 0 rfl) ?_
  refine xget (pc := 1) C0 hH 17 0 clX8 ⟨Nat.le_of_ble_eq_true rfl, Nat.le_of_ble_eq_true rfl⟩ ⟨rfl, rfl⟩ (Nat.le_of_ble_eq_true rfl) fl_X8_12 (v := .ref (b + 18)) rfl dX8_hasShapeOf_1 ?_
  refine xget (pc := 4) C0 hH 18 9 clX0 ⟨Nat.le_of_ble_eq_true rfl, Nat.le_of_ble_eq_true rfl⟩ ⟨rfl, rfl⟩ (Nat.le_of_ble_eq_true rfl) fl_X8_43 (v := .int (i 18 9)) rfl dX8_hasShapeOf_4 ?_
  refine lv_aload_n (pc := 7) C0.1 C0.2.1 dX8_hasShapeOf_7 rfl (lv_at hl 1 rfl) ?_
  refine xget (pc := 8) C0 hH 48 0 clX8 ⟨Nat.le_of_ble_eq_true rfl, Nat.le_of_ble_eq_true rfl⟩ ⟨rfl, rfl⟩ (Nat.le_of_ble_eq_true rfl) fl_X8_12 (v := .ref (b + 49)) rfl dX8_hasShapeOf_8 ?_
  refine xget (pc := 11) C0 hH 49 9 clX0 ⟨Nat.le_of_ble_eq_true rfl, Nat.le_of_ble_eq_true rfl⟩ ⟨rfl, rfl⟩ (Nat.le_of_ble_eq_true rfl) fl_X8_43 (v := .int (i 49 9)) rfl dX8_hasShapeOf_11 ?_
  refine lv_icmp_ne (pc := 14) (tgt := 34) C0.1 C0.2.1 dX8_hasShapeOf_14 (by decide) (fun c1 => ?_) (fun c1 => ?_)
  · have c1 : ¬ _ := fun q => c1 (Int32.toInt_inj.mp q)
    refine lv_iconst (pc := 34) (v := 0) C0.1 C0.2.1 dX8_hasShapeOf_34 (by decide) ?_
    exact xzret (pc := 35) C0 hr hH hS dX8_hasShapeOf_35 (by decide) ⟨rfl, by decide⟩
  · have c1 := congrArg Int32.toInt c1
    refine lv_aload_n (pc := 17) C0.1 C0.2.1 dX8_hasShapeOf_17 rfl (lv_at hl 0 rfl) ?_
    refine xget (pc := 18) C0 hH 17 1 clX8 ⟨Nat.le_of_ble_eq_true rfl, Nat.le_of_ble_eq_true rfl⟩ ⟨rfl, rfl⟩ (Nat.le_of_ble_eq_true rfl) fl_X8_21 (v := .ref (b + 28)) rfl dX8_hasShapeOf_18 ?_
    refine xget (pc := 21) C0 hH 28 5 clX2 ⟨Nat.le_of_ble_eq_true rfl, Nat.le_of_ble_eq_true rfl⟩ ⟨rfl, rfl⟩ (Nat.le_of_ble_eq_true rfl) fl_X8_46 (v := .int (i 28 5)) rfl dX8_hasShapeOf_21 ?_
    refine lv_aload_n (pc := 24) C0.1 C0.2.1 dX8_hasShapeOf_24 rfl (lv_at hl 1 rfl) ?_
    refine xget (pc := 25) C0 hH 48 1 clX8 ⟨Nat.le_of_ble_eq_true rfl, Nat.le_of_ble_eq_true rfl⟩ ⟨rfl, rfl⟩ (Nat.le_of_ble_eq_true rfl) fl_X8_21 (v := .ref (b + 59)) rfl dX8_hasShapeOf_25 ?_
    refine xget (pc := 28) C0 hH 59 5 clX2 ⟨Nat.le_of_ble_eq_true rfl, Nat.le_of_ble_eq_true rfl⟩ ⟨rfl, rfl⟩ (Nat.le_of_ble_eq_true rfl) fl_X8_46 (v := .int (i 59 5)) rfl dX8_hasShapeOf_28 ?_
    refine lv_icmp_eq (pc := 31) (tgt := 36) C0.1 C0.2.1 dX8_hasShapeOf_31 (by decide) (fun c2 => ?_) (fun c2 => ?_)
    · have c2 := congrArg Int32.toInt c2
      refine lv_iconst (pc := 36) (v := 0) C0.1 C0.2.1 dX8_hasShapeOf_36 (by decide) ?_
      refine lv_istore_n (pc := 37) (lv' := [(3, .int 0), (0, .ref (b + 17)), (1, .ref (b + 48)), (2, .int x)]) C0.1 C0.2.1 dX8_hasShapeOf_37 rfl hl (by decide) rfl (fun ls hl => ?_)
      exact L38 600 0 _ _ _ (by have : Int32.toInt 0 = 0 := rfl; omega) (by have : Int32.toInt 0 = 0 := rfl; omega) hH hS (lv_sub hl [0, 1, 2, 3] rfl)
    · have c2 : ¬ _ := fun q => c2 (Int32.toInt_inj.mp q)
      refine lv_iconst (pc := 34) (v := 0) C0.1 C0.2.1 dX8_hasShapeOf_34 (by decide) ?_
      exact xzret (pc := 35) C0 hr hH hS dX8_hasShapeOf_35 (by decide) ⟨rfl, by decide⟩
