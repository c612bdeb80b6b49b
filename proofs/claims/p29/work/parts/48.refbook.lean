set_option maxRecDepth 20000 in
theorem fl_X10_192 : Cond.fieldLink RX10 192 (TX10 8).1 (TX10 8).2.1 (TX10 8).2.2.1 ∈ WALL := wm 1032 (by decide +kernel) rfl
set_option maxRecDepth 20000 in
theorem fl_X10_189 : Cond.fieldLink RX10 189 (TX10 6).1 (TX10 6).2.1 (TX10 6).2.2.1 ∈ WALL := wm 1030 (by decide +kernel) rfl
set_option maxRecDepth 20000 in
theorem fl_X10_186 : Cond.fieldLink RX10 186 (TX10 3).1 (TX10 3).2.1 (TX10 3).2.2.1 ∈ WALL := wm 1027 (by decide +kernel) rfl
set_option maxRecDepth 20000 in
theorem fl_X10_182 : Cond.fieldLink RX10 182 (TX10 0).1 (TX10 0).2.1 (TX10 0).2.2.1 ∈ WALL := wm 1024 (by decide +kernel) rfl
theorem dX10_isTold_139 : decode cX10_isTold 139 = .ok (.iload 4, 2) := by decide +kernel
theorem dX10_isTold_141 : decode cX10_isTold 141 = .ok (.aload_n 0, 1) := by decide +kernel
theorem dX10_isTold_142 : decode cX10_isTold 142 = .ok (.getfield 192, 3) := by decide +kernel
theorem dX10_isTold_145 : decode cX10_isTold 145 = .ok (.if_icmp .ge 32, 3) := by decide +kernel
theorem dX10_isTold_177 : decode cX10_isTold 177 = .ok (.iload_n 3, 1) := by decide +kernel
theorem dX10_isTold_178 : decode cX10_isTold 178 = .ok (.ireturn, 1) := by decide +kernel
theorem dX10_isTold_148 : decode cX10_isTold 148 = .ok (.iload_n 3, 1) := by decide +kernel
theorem dX10_isTold_149 : decode cX10_isTold 149 = .ok (.ifCond .ne 16, 3) := by decide +kernel
theorem dX10_isTold_165 : decode cX10_isTold 165 = .ok (.iconst 1, 1) := by decide +kernel
theorem dX10_isTold_166 : decode cX10_isTold 166 = .ok (.goto 4, 3) := by decide +kernel
theorem dX10_isTold_170 : decode cX10_isTold 170 = .ok (.istore_n 3, 1) := by decide +kernel
theorem dX10_isTold_171 : decode cX10_isTold 171 = .ok (.iinc 4 1, 3) := by decide +kernel
theorem dX10_isTold_174 : decode cX10_isTold 174 = .ok (.goto (-35), 3) := by decide +kernel
theorem dX10_isTold_152 : decode cX10_isTold 152 = .ok (.aload_n 0, 1) := by decide +kernel
theorem dX10_isTold_153 : decode cX10_isTold 153 = .ok (.getfield 26, 3) := by decide +kernel
theorem dX10_isTold_156 : decode cX10_isTold 156 = .ok (.iload 4, 2) := by decide +kernel
theorem dX10_isTold_158 : decode cX10_isTold 158 = .ok (.iaload, 1) := by decide +kernel
theorem dX10_isTold_159 : decode cX10_isTold 159 = .ok (.i2l, 1) := by decide +kernel
theorem dX10_isTold_160 : decode cX10_isTold 160 = .ok (.lload_n 1, 1) := by decide +kernel
theorem dX10_isTold_161 : decode cX10_isTold 161 = .ok (.lcmp, 1) := by decide +kernel
theorem dX10_isTold_162 : decode cX10_isTold 162 = .ok (.ifCond .ne 7, 3) := by decide +kernel
theorem dX10_isTold_169 : decode cX10_isTold 169 = .ok (.iconst 0, 1) := by decide +kernel
theorem dX10_isTold_99 : decode cX10_isTold 99 = .ok (.iload 4, 2) := by decide +kernel
theorem dX10_isTold_101 : decode cX10_isTold 101 = .ok (.aload_n 0, 1) := by decide +kernel
theorem dX10_isTold_102 : decode cX10_isTold 102 = .ok (.getfield 189, 3) := by decide +kernel
theorem dX10_isTold_105 : decode cX10_isTold 105 = .ok (.if_icmp .ge 31, 3) := by decide +kernel
theorem dX10_isTold_136 : decode cX10_isTold 136 = .ok (.iconst 0, 1) := by decide +kernel
theorem dX10_isTold_137 : decode cX10_isTold 137 = .ok (.istore 4, 2) := by decide +kernel
theorem dX10_isTold_108 : decode cX10_isTold 108 = .ok (.iload_n 3, 1) := by decide +kernel
theorem dX10_isTold_109 : decode cX10_isTold 109 = .ok (.ifCond .ne 15, 3) := by decide +kernel
theorem dX10_isTold_124 : decode cX10_isTold 124 = .ok (.iconst 1, 1) := by decide +kernel
theorem dX10_isTold_125 : decode cX10_isTold 125 = .ok (.goto 4, 3) := by decide +kernel
theorem dX10_isTold_129 : decode cX10_isTold 129 = .ok (.istore_n 3, 1) := by decide +kernel
theorem dX10_isTold_130 : decode cX10_isTold 130 = .ok (.iinc 4 1, 3) := by decide +kernel
theorem dX10_isTold_133 : decode cX10_isTold 133 = .ok (.goto (-34), 3) := by decide +kernel
theorem dX10_isTold_112 : decode cX10_isTold 112 = .ok (.aload_n 0, 1) := by decide +kernel
theorem dX10_isTold_113 : decode cX10_isTold 113 = .ok (.getfield 23, 3) := by decide +kernel
theorem dX10_isTold_116 : decode cX10_isTold 116 = .ok (.iload 4, 2) := by decide +kernel
theorem dX10_isTold_118 : decode cX10_isTold 118 = .ok (.laload, 1) := by decide +kernel
theorem dX10_isTold_119 : decode cX10_isTold 119 = .ok (.lload_n 1, 1) := by decide +kernel
theorem dX10_isTold_120 : decode cX10_isTold 120 = .ok (.lcmp, 1) := by decide +kernel
theorem dX10_isTold_121 : decode cX10_isTold 121 = .ok (.ifCond .ne 7, 3) := by decide +kernel
theorem dX10_isTold_128 : decode cX10_isTold 128 = .ok (.iconst 0, 1) := by decide +kernel
theorem dX10_isTold_45 : decode cX10_isTold 45 = .ok (.iload 4, 2) := by decide +kernel
theorem dX10_isTold_47 : decode cX10_isTold 47 = .ok (.aload_n 0, 1) := by decide +kernel
theorem dX10_isTold_48 : decode cX10_isTold 48 = .ok (.getfield 186, 3) := by decide +kernel
theorem dX10_isTold_51 : decode cX10_isTold 51 = .ok (.if_icmp .ge 45, 3) := by decide +kernel
theorem dX10_isTold_96 : decode cX10_isTold 96 = .ok (.iconst 0, 1) := by decide +kernel
theorem dX10_isTold_97 : decode cX10_isTold 97 = .ok (.istore 4, 2) := by decide +kernel
theorem dX10_isTold_54 : decode cX10_isTold 54 = .ok (.iload_n 3, 1) := by decide +kernel
theorem dX10_isTold_55 : decode cX10_isTold 55 = .ok (.ifCond .ne 29, 3) := by decide +kernel
theorem dX10_isTold_84 : decode cX10_isTold 84 = .ok (.iconst 1, 1) := by decide +kernel
theorem dX10_isTold_85 : decode cX10_isTold 85 = .ok (.goto 4, 3) := by decide +kernel
theorem dX10_isTold_89 : decode cX10_isTold 89 = .ok (.istore_n 3, 1) := by decide +kernel
theorem dX10_isTold_90 : decode cX10_isTold 90 = .ok (.iinc 4 1, 3) := by decide +kernel
theorem dX10_isTold_93 : decode cX10_isTold 93 = .ok (.goto (-48), 3) := by decide +kernel
theorem dX10_isTold_58 : decode cX10_isTold 58 = .ok (.aload_n 0, 1) := by decide +kernel
theorem dX10_isTold_59 : decode cX10_isTold 59 = .ok (.getfield 17, 3) := by decide +kernel
theorem dX10_isTold_62 : decode cX10_isTold 62 = .ok (.iload 4, 2) := by decide +kernel
theorem dX10_isTold_64 : decode cX10_isTold 64 = .ok (.iaload, 1) := by decide +kernel
theorem dX10_isTold_65 : decode cX10_isTold 65 = .ok (.i2l, 1) := by decide +kernel
theorem dX10_isTold_66 : decode cX10_isTold 66 = .ok (.lload_n 1, 1) := by decide +kernel
theorem dX10_isTold_67 : decode cX10_isTold 67 = .ok (.lcmp, 1) := by decide +kernel
theorem dX10_isTold_68 : decode cX10_isTold 68 = .ok (.ifCond .eq 16, 3) := by decide +kernel
theorem dX10_isTold_71 : decode cX10_isTold 71 = .ok (.aload_n 0, 1) := by decide +kernel
theorem dX10_isTold_72 : decode cX10_isTold 72 = .ok (.getfield 20, 3) := by decide +kernel
theorem dX10_isTold_75 : decode cX10_isTold 75 = .ok (.iload 4, 2) := by decide +kernel
theorem dX10_isTold_77 : decode cX10_isTold 77 = .ok (.iaload, 1) := by decide +kernel
theorem dX10_isTold_78 : decode cX10_isTold 78 = .ok (.i2l, 1) := by decide +kernel
theorem dX10_isTold_79 : decode cX10_isTold 79 = .ok (.lload_n 1, 1) := by decide +kernel
theorem dX10_isTold_80 : decode cX10_isTold 80 = .ok (.lcmp, 1) := by decide +kernel
theorem dX10_isTold_81 : decode cX10_isTold 81 = .ok (.ifCond .ne 7, 3) := by decide +kernel
theorem dX10_isTold_88 : decode cX10_isTold 88 = .ok (.iconst 0, 1) := by decide +kernel
theorem dX10_isTold_5 : decode cX10_isTold 5 = .ok (.iload 4, 2) := by decide +kernel
theorem dX10_isTold_7 : decode cX10_isTold 7 = .ok (.aload_n 0, 1) := by decide +kernel
theorem dX10_isTold_8 : decode cX10_isTold 8 = .ok (.getfield 182, 3) := by decide +kernel
theorem dX10_isTold_11 : decode cX10_isTold 11 = .ok (.if_icmp .ge 31, 3) := by decide +kernel
theorem dX10_isTold_42 : decode cX10_isTold 42 = .ok (.iconst 0, 1) := by decide +kernel
theorem dX10_isTold_43 : decode cX10_isTold 43 = .ok (.istore 4, 2) := by decide +kernel
theorem dX10_isTold_14 : decode cX10_isTold 14 = .ok (.iload_n 3, 1) := by decide +kernel
theorem dX10_isTold_15 : decode cX10_isTold 15 = .ok (.ifCond .ne 15, 3) := by decide +kernel
theorem dX10_isTold_30 : decode cX10_isTold 30 = .ok (.iconst 1, 1) := by decide +kernel
theorem dX10_isTold_31 : decode cX10_isTold 31 = .ok (.goto 4, 3) := by decide +kernel
theorem dX10_isTold_35 : decode cX10_isTold 35 = .ok (.istore_n 3, 1) := by decide +kernel
theorem dX10_isTold_36 : decode cX10_isTold 36 = .ok (.iinc 4 1, 3) := by decide +kernel
theorem dX10_isTold_39 : decode cX10_isTold 39 = .ok (.goto (-34), 3) := by decide +kernel
theorem dX10_isTold_18 : decode cX10_isTold 18 = .ok (.aload_n 0, 1) := by decide +kernel
theorem dX10_isTold_19 : decode cX10_isTold 19 = .ok (.getfield 7, 3) := by decide +kernel
theorem dX10_isTold_22 : decode cX10_isTold 22 = .ok (.iload 4, 2) := by decide +kernel
theorem dX10_isTold_24 : decode cX10_isTold 24 = .ok (.laload, 1) := by decide +kernel
theorem dX10_isTold_25 : decode cX10_isTold 25 = .ok (.lload_n 1, 1) := by decide +kernel
theorem dX10_isTold_26 : decode cX10_isTold 26 = .ok (.lcmp, 1) := by decide +kernel
theorem dX10_isTold_27 : decode cX10_isTold 27 = .ok (.ifCond .ne 7, 3) := by decide +kernel
theorem dX10_isTold_34 : decode cX10_isTold 34 = .ok (.iconst 0, 1) := by decide +kernel
theorem dX10_isTold_0 : decode cX10_isTold 0 = .ok (.iconst 0, 1) := by decide +kernel
theorem dX10_isTold_1 : decode cX10_isTold 1 = .ok (.istore_n 3, 1) := by decide +kernel
theorem dX10_isTold_2 : decode cX10_isTold 2 = .ok (.iconst 0, 1) := by decide +kernel
theorem dX10_isTold_3 : decode cX10_isTold 3 = .ok (.istore 4, 2) := by decide +kernel
set_option maxHeartbeats 4000000 in
set_option maxRecDepth 100000 in
theorem m_isTold (l : Launch) (D : va_G) (tA : Nat → ClassId) (b : Nat) (i F : Nat → Nat → Int32) (G : Nat → Nat → Int64) (w : Int64) (S : Int64 → Prop) (hB : BkM i F G S) : xMI l yX10_isTold cX10_isTold 5 (some .boolean) 0 0 D tA b 78 52 i F G [.ref (b + 78), .long w] (fun r u => u = (i, F, G) ∧ (r = 0 ∨ r = 1) ∧ (r = 1 ↔ S w)) := by
  refine xstart RX10 rfl (by decide) (Nat.le_of_ble_eq_true rfl) ?_
  intro p e s m below meth c ls C0 hr hH hS hl
  have hl : lv_has ls 5 [(0, .ref (b + 78)), (1, .long w)] := hl
  have hRg := hB.1
  have L139 : ∀ (d : Nat) (k q : Int32) (H : Heap) (locs : List Loc) (ls : Array Slot), (0 ≤ k.toInt ∧ k.toInt ≤ (i 78 8).toInt) → ((i 78 8).toInt - k.toInt ≤ d) → (q = 0 ∨ q = 1) → (q = 1 ↔ ((sT (i 78 0) (G 79) w ∨ sP (i 78 3) (F 81) (F 82) w) ∨ sT (i 78 6) (G 83) w) ∨ sI k (F 84) w) → Hd D tA b 78 52 zz i F G H → va_S (xA b 78 52) s.heap H locs → lv_has ls 5 [(4, .int k), (3, .int q), (0, .ref (b + 78)), (1, .long w)] → W p l e (xR 0 0) s m ([.ref (b + 78), .long w] : List Value).toArray below meth c H locs 0 0 (MQ below (va_Qi (fun r u => u = (i, F, G) ∧ (r = 0 ∨ r = 1) ∧ (r = 1 ↔ S w)) (xB D tA b 78 52 zz) (xA b 78 52)) ([.ref (b + 78), .long w] : List Value).toArray s 0 0 (xA b 78 52)) (F0 m 139 ls []) := by
    intro d
    induction d with
    | zero =>
      intro k q H locs ls h1 h2 h3 h4 hH hS hl
      have rg_k := fb_rng k
      have rg_q := fb_rng q
      refine lv_iload (pc := 139) C0.1 C0.2.1 dX10_isTold_139 (lv_at hl 0 rfl) ?_
      refine lv_aload_n (pc := 141) C0.1 C0.2.1 dX10_isTold_141 rfl (lv_at hl 2 rfl) ?_
      refine xget (pc := 142) C0 hH 78 8 clX10 ⟨Nat.le_of_ble_eq_true rfl, Nat.le_of_ble_eq_true rfl⟩ ⟨rfl, rfl⟩ (Nat.le_of_ble_eq_true rfl) fl_X10_192 (v := .int (i 78 8)) rfl dX10_isTold_142 ?_
      refine lv_icmp_ge (pc := 145) (tgt := 177) C0.1 C0.2.1 dX10_isTold_145 (by decide) (fun _ => ?_) (fun c => absurd (Int32.le_iff_toInt_le.mpr (by omega)) c)
      refine lv_iload_n (pc := 177) C0.1 C0.2.1 dX10_isTold_177 rfl (lv_at hl 1 rfl) ?_
      exact xzret (pc := 178) C0 hr hH hS dX10_isTold_178 h3 ⟨rfl, h3, by rw [hB.2 w]; have e := Int32.toInt_inj.mp (show Int32.toInt k = Int32.toInt (i 78 8) from by omega); rw [e] at h4; exact h4⟩
    | succ d ih139 =>
      intro k q H locs ls h1 h2 h3 h4 hH hS hl
      have rg_k := fb_rng k
      have rg_q := fb_rng q
      refine lv_iload (pc := 139) C0.1 C0.2.1 dX10_isTold_139 (lv_at hl 0 rfl) ?_
      refine lv_aload_n (pc := 141) C0.1 C0.2.1 dX10_isTold_141 rfl (lv_at hl 2 rfl) ?_
      refine xget (pc := 142) C0 hH 78 8 clX10 ⟨Nat.le_of_ble_eq_true rfl, Nat.le_of_ble_eq_true rfl⟩ ⟨rfl, rfl⟩ (Nat.le_of_ble_eq_true rfl) fl_X10_192 (v := .int (i 78 8)) rfl dX10_isTold_142 ?_
      refine lv_icmp_ge (pc := 145) (tgt := 177) C0.1 C0.2.1 dX10_isTold_145 (by decide) (fun c201 => ?_) (fun c201 => ?_)
      · have c201 := Int32.le_iff_toInt_le.mp c201
        refine lv_iload_n (pc := 177) C0.1 C0.2.1 dX10_isTold_177 rfl (lv_at hl 1 rfl) ?_
        exact xzret (pc := 178) C0 hr hH hS dX10_isTold_178 h3 ⟨rfl, h3, by rw [hB.2 w]; have e := Int32.toInt_inj.mp (show Int32.toInt k = Int32.toInt (i 78 8) from by omega); rw [e] at h4; exact h4⟩
      · have c201 : ¬ _ := fun q => c201 (Int32.le_iff_toInt_le.mpr q)
        refine lv_iload_n (pc := 148) C0.1 C0.2.1 dX10_isTold_148 rfl (lv_at hl 1 rfl) ?_
        refine lv_if_ne (pc := 149) (tgt := 165) C0.1 C0.2.1 dX10_isTold_149 (by decide) (fun c202 => ?_) (fun c202 => ?_)
        · have : Int32.toInt 0 = 0 := rfl
          have c202 : ¬ _ := fun q => c202 (Int32.toInt_inj.mp q)
          refine lv_iconst (pc := 165) (v := 1) C0.1 C0.2.1 dX10_isTold_165 (by decide) ?_
          refine lv_goto (pc := 166) (tgt := 170) C0.1 C0.2.1 dX10_isTold_166 (by decide) ?_
          refine lv_istore_n (pc := 170) (lv' := [(3, .int 1), (4, .int k), (0, .ref (b + 78)), (1, .long w)]) C0.1 C0.2.1 dX10_isTold_170 rfl hl (by decide) rfl (fun ls hl => ?_)
          obtain ⟨x203, ex203⟩ : ∃ y_ : Int32, y_ = k + 1 := ⟨_, rfl⟩
          have : Int32.toInt 1 = 1 := rfl
          have hx203 : Int32.toInt x203 = Int32.toInt k + Int32.toInt 1 := by rw [ex203]; exact fb_addI (by omega) (by omega)
          refine lv_iinc (pc := 171) (v := x203) (lv' := [(4, .int x203), (3, .int 1), (0, .ref (b + 78)), (1, .long w)]) C0.1 C0.2.1 dX10_isTold_171 hl (k := 1) rfl (by rw [ex203]; rfl) (by decide) rfl (fun ls hl => ?_)
          refine lv_goto (pc := 174) (tgt := 139) C0.1 C0.2.1 dX10_isTold_174 (by decide) ?_
          exact ih139 x203 1 _ _ _ (by omega) (by omega) (by decide) (by have hs : (((sT (i 78 0) (G 79) w ∨ sP (i 78 3) (F 81) (F 82) w) ∨ sT (i 78 6) (G 83) w) ∨ sI x203 (F 84) w) ↔ (((sT (i 78 0) (G 79) w ∨ sP (i 78 3) (F 81) (F 82) w) ∨ sT (i 78 6) (G 83) w) ∨ sI k (F 84) w) ∨ (F 84 (Int32.toNatClampNeg k)).toInt64 = w := (by rw [show sI x203 (F 84) w ↔ _ from ex_s (t := x203) h1.1 (by omega), ← or_assoc]; rfl); first | exact itA h4 h3 (by assumption) hs | exact itB hs (by first | assumption | exact Or.inl (by assumption) | exact Or.inr (by assumption)) | exact itC h4 (by assumption) hs (by first | assumption | exact fun q => q.elim (by assumption) (by assumption))) hH hS (lv_sub hl [0, 1, 2, 3] rfl)
        · have : Int32.toInt 0 = 0 := rfl
          have c202 := congrArg Int32.toInt c202
          refine lv_aload_n (pc := 152) C0.1 C0.2.1 dX10_isTold_152 rfl (lv_at hl 2 rfl) ?_
          refine xget (pc := 153) C0 hH 78 9 clX10 ⟨Nat.le_of_ble_eq_true rfl, Nat.le_of_ble_eq_true rfl⟩ ⟨rfl, rfl⟩ (Nat.le_of_ble_eq_true rfl) fl_X10_26 (v := .ref (b + 84)) rfl dX10_isTold_153 ?_
          refine lv_iload (pc := 156) C0.1 C0.2.1 dX10_isTold_156 (lv_at hl 0 rfl) ?_
          refine xiald (pc := 158) (N := 4) C0 hH 84 ⟨Nat.le_of_ble_eq_true rfl, Nat.le_of_ble_eq_true rfl⟩ ⟨rfl, rfl⟩ (vI (by omega) (by omega)) dX10_isTold_158 ?_
          refine lv_i2l (pc := 159) (v := (F 84 (Int32.toNatClampNeg k)).toInt64) C0.1 C0.2.1 dX10_isTold_159 rfl ?_
          refine lv_lload_n (pc := 160) C0.1 C0.2.1 dX10_isTold_160 rfl (lv_at hl 3 rfl) ?_
          refine W.lcmp (pc := 161) C0.1 C0.2.1 dX10_isTold_161 ?_
          refine lv_if_ne (pc := 162) (tgt := 169) C0.1 C0.2.1 dX10_isTold_162 (by decide) (fun c204 => ?_) (fun c204 => ?_)
          · have c204 := fun q => c204 ((lg_cmp_eq _ _).mpr q)
            refine lv_iconst (pc := 169) (v := 0) C0.1 C0.2.1 dX10_isTold_169 (by decide) ?_
            refine lv_istore_n (pc := 170) (lv' := [(3, .int 0), (4, .int k), (0, .ref (b + 78)), (1, .long w)]) C0.1 C0.2.1 dX10_isTold_170 rfl hl (by decide) rfl (fun ls hl => ?_)
            obtain ⟨x205, ex205⟩ : ∃ y_ : Int32, y_ = k + 1 := ⟨_, rfl⟩
            have : Int32.toInt 1 = 1 := rfl
            have hx205 : Int32.toInt x205 = Int32.toInt k + Int32.toInt 1 := by rw [ex205]; exact fb_addI (by omega) (by omega)
            refine lv_iinc (pc := 171) (v := x205) (lv' := [(4, .int x205), (3, .int 0), (0, .ref (b + 78)), (1, .long w)]) C0.1 C0.2.1 dX10_isTold_171 hl (k := 1) rfl (by rw [ex205]; rfl) (by decide) rfl (fun ls hl => ?_)
            refine lv_goto (pc := 174) (tgt := 139) C0.1 C0.2.1 dX10_isTold_174 (by decide) ?_
            exact ih139 x205 0 _ _ _ (by omega) (by omega) (by decide) (by have hs : (((sT (i 78 0) (G 79) w ∨ sP (i 78 3) (F 81) (F 82) w) ∨ sT (i 78 6) (G 83) w) ∨ sI x205 (F 84) w) ↔ (((sT (i 78 0) (G 79) w ∨ sP (i 78 3) (F 81) (F 82) w) ∨ sT (i 78 6) (G 83) w) ∨ sI k (F 84) w) ∨ (F 84 (Int32.toNatClampNeg k)).toInt64 = w := (by rw [show sI x205 (F 84) w ↔ _ from ex_s (t := x205) h1.1 (by omega), ← or_assoc]; rfl); first | exact itA h4 h3 (by assumption) hs | exact itB hs (by first | assumption | exact Or.inl (by assumption) | exact Or.inr (by assumption)) | exact itC h4 (by assumption) hs (by first | assumption | exact fun q => q.elim (by assumption) (by assumption))) hH hS (lv_sub hl [0, 1, 2, 3] rfl)
          · have c204 := (lg_cmp_eq _ _).mp c204
            refine lv_iconst (pc := 165) (v := 1) C0.1 C0.2.1 dX10_isTold_165 (by decide) ?_
            refine lv_goto (pc := 166) (tgt := 170) C0.1 C0.2.1 dX10_isTold_166 (by decide) ?_
            refine lv_istore_n (pc := 170) (lv' := [(3, .int 1), (4, .int k), (0, .ref (b + 78)), (1, .long w)]) C0.1 C0.2.1 dX10_isTold_170 rfl hl (by decide) rfl (fun ls hl => ?_)
            obtain ⟨x206, ex206⟩ : ∃ y_ : Int32, y_ = k + 1 := ⟨_, rfl⟩
            have : Int32.toInt 1 = 1 := rfl
            have hx206 : Int32.toInt x206 = Int32.toInt k + Int32.toInt 1 := by rw [ex206]; exact fb_addI (by omega) (by omega)
            refine lv_iinc (pc := 171) (v := x206) (lv' := [(4, .int x206), (3, .int 1), (0, .ref (b + 78)), (1, .long w)]) C0.1 C0.2.1 dX10_isTold_171 hl (k := 1) rfl (by rw [ex206]; rfl) (by decide) rfl (fun ls hl => ?_)
            refine lv_goto (pc := 174) (tgt := 139) C0.1 C0.2.1 dX10_isTold_174 (by decide) ?_
            exact ih139 x206 1 _ _ _ (by omega) (by omega) (by decide) (by have hs : (((sT (i 78 0) (G 79) w ∨ sP (i 78 3) (F 81) (F 82) w) ∨ sT (i 78 6) (G 83) w) ∨ sI x206 (F 84) w) ↔ (((sT (i 78 0) (G 79) w ∨ sP (i 78 3) (F 81) (F 82) w) ∨ sT (i 78 6) (G 83) w) ∨ sI k (F 84) w) ∨ (F 84 (Int32.toNatClampNeg k)).toInt64 = w := (by rw [show sI x206 (F 84) w ↔ _ from ex_s (t := x206) h1.1 (by omega), ← or_assoc]; rfl); first | exact itA h4 h3 (by assumption) hs | exact itB hs (by first | assumption | exact Or.inl (by assumption) | exact Or.inr (by assumption)) | exact itC h4 (by assumption) hs (by first | assumption | exact fun q => q.elim (by assumption) (by assumption))) hH hS (lv_sub hl [0, 1, 2, 3] rfl)
  have L99 : ∀ (d : Nat) (k q : Int32) (H : Heap) (locs : List Loc) (ls : Array Slot), (0 ≤ k.toInt ∧ k.toInt ≤ (i 78 6).toInt) → ((i 78 6).toInt - k.toInt ≤ d) → (q = 0 ∨ q = 1) → (q = 1 ↔ (sT (i 78 0) (G 79) w ∨ sP (i 78 3) (F 81) (F 82) w) ∨ sT k (G 83) w) → Hd D tA b 78 52 zz i F G H → va_S (xA b 78 52) s.heap H locs → lv_has ls 5 [(4, .int k), (3, .int q), (0, .ref (b + 78)), (1, .long w)] → W p l e (xR 0 0) s m ([.ref (b + 78), .long w] : List Value).toArray below meth c H locs 0 0 (MQ below (va_Qi (fun r u => u = (i, F, G) ∧ (r = 0 ∨ r = 1) ∧ (r = 1 ↔ S w)) (xB D tA b 78 52 zz) (xA b 78 52)) ([.ref (b + 78), .long w] : List Value).toArray s 0 0 (xA b 78 52)) (F0 m 99 ls []) := by
    intro d
    induction d with
    | zero =>
      intro k q H locs ls h1 h2 h3 h4 hH hS hl
      have rg_k := fb_rng k
      have rg_q := fb_rng q
      refine lv_iload (pc := 99) C0.1 C0.2.1 dX10_isTold_99 (lv_at hl 0 rfl) ?_
      refine lv_aload_n (pc := 101) C0.1 C0.2.1 dX10_isTold_101 rfl (lv_at hl 2 rfl) ?_
      refine xget (pc := 102) C0 hH 78 6 clX10 ⟨Nat.le_of_ble_eq_true rfl, Nat.le_of_ble_eq_true rfl⟩ ⟨rfl, rfl⟩ (Nat.le_of_ble_eq_true rfl) fl_X10_189 (v := .int (i 78 6)) rfl dX10_isTold_102 ?_
      refine lv_icmp_ge (pc := 105) (tgt := 136) C0.1 C0.2.1 dX10_isTold_105 (by decide) (fun _ => ?_) (fun c => absurd (Int32.le_iff_toInt_le.mpr (by omega)) c)
      refine lv_iconst (pc := 136) (v := 0) C0.1 C0.2.1 dX10_isTold_136 (by decide) ?_
      refine lv_istore (pc := 137) (lv' := [(4, .int 0), (3, .int q), (0, .ref (b + 78)), (1, .long w)]) C0.1 C0.2.1 dX10_isTold_137 hl (by decide) rfl (fun ls hl => ?_)
      exact L139 8 0 q _ _ _ (by have : Int32.toInt 0 = 0 := rfl; omega) (by have : Int32.toInt 0 = 0 := rfl; omega) h3 (by have e := Int32.toInt_inj.mp (show Int32.toInt k = Int32.toInt (i 78 6) from by omega); rw [← e]; exact h4.trans ⟨Or.inl, fun q => q.elim id (fun q => by obtain ⟨j, hj, _⟩ := q; exact absurd hj (by have : Int32.toInt 0 = 0 := rfl; omega))⟩) hH hS (lv_sub hl [0, 1, 2, 3] rfl)
    | succ d ih99 =>
      intro k q H locs ls h1 h2 h3 h4 hH hS hl
      have rg_k := fb_rng k
      have rg_q := fb_rng q
      refine lv_iload (pc := 99) C0.1 C0.2.1 dX10_isTold_99 (lv_at hl 0 rfl) ?_
      refine lv_aload_n (pc := 101) C0.1 C0.2.1 dX10_isTold_101 rfl (lv_at hl 2 rfl) ?_
      refine xget (pc := 102) C0 hH 78 6 clX10 ⟨Nat.le_of_ble_eq_true rfl, Nat.le_of_ble_eq_true rfl⟩ ⟨rfl, rfl⟩ (Nat.le_of_ble_eq_true rfl) fl_X10_189 (v := .int (i 78 6)) rfl dX10_isTold_102 ?_
      refine lv_icmp_ge (pc := 105) (tgt := 136) C0.1 C0.2.1 dX10_isTold_105 (by decide) (fun c201 => ?_) (fun c201 => ?_)
      · have c201 := Int32.le_iff_toInt_le.mp c201
        refine lv_iconst (pc := 136) (v := 0) C0.1 C0.2.1 dX10_isTold_136 (by decide) ?_
        refine lv_istore (pc := 137) (lv' := [(4, .int 0), (3, .int q), (0, .ref (b + 78)), (1, .long w)]) C0.1 C0.2.1 dX10_isTold_137 hl (by decide) rfl (fun ls hl => ?_)
        exact L139 8 0 q _ _ _ (by have : Int32.toInt 0 = 0 := rfl; omega) (by have : Int32.toInt 0 = 0 := rfl; omega) h3 (by have e := Int32.toInt_inj.mp (show Int32.toInt k = Int32.toInt (i 78 6) from by omega); rw [← e]; exact h4.trans ⟨Or.inl, fun q => q.elim id (fun q => by obtain ⟨j, hj, _⟩ := q; exact absurd hj (by have : Int32.toInt 0 = 0 := rfl; omega))⟩) hH hS (lv_sub hl [0, 1, 2, 3] rfl)
      · have c201 : ¬ _ := fun q => c201 (Int32.le_iff_toInt_le.mpr q)
        refine lv_iload_n (pc := 108) C0.1 C0.2.1 dX10_isTold_108 rfl (lv_at hl 1 rfl) ?_
        refine lv_if_ne (pc := 109) (tgt := 124) C0.1 C0.2.1 dX10_isTold_109 (by decide) (fun c202 => ?_) (fun c202 => ?_)
        · have : Int32.toInt 0 = 0 := rfl
          have c202 : ¬ _ := fun q => c202 (Int32.toInt_inj.mp q)
          refine lv_iconst (pc := 124) (v := 1) C0.1 C0.2.1 dX10_isTold_124 (by decide) ?_
          refine lv_goto (pc := 125) (tgt := 129) C0.1 C0.2.1 dX10_isTold_125 (by decide) ?_
          refine lv_istore_n (pc := 129) (lv' := [(3, .int 1), (4, .int k), (0, .ref (b + 78)), (1, .long w)]) C0.1 C0.2.1 dX10_isTold_129 rfl hl (by decide) rfl (fun ls hl => ?_)
          obtain ⟨x203, ex203⟩ : ∃ y_ : Int32, y_ = k + 1 := ⟨_, rfl⟩
          have : Int32.toInt 1 = 1 := rfl
          have hx203 : Int32.toInt x203 = Int32.toInt k + Int32.toInt 1 := by rw [ex203]; exact fb_addI (by omega) (by omega)
          refine lv_iinc (pc := 130) (v := x203) (lv' := [(4, .int x203), (3, .int 1), (0, .ref (b + 78)), (1, .long w)]) C0.1 C0.2.1 dX10_isTold_130 hl (k := 1) rfl (by rw [ex203]; rfl) (by decide) rfl (fun ls hl => ?_)
          refine lv_goto (pc := 133) (tgt := 99) C0.1 C0.2.1 dX10_isTold_133 (by decide) ?_
          exact ih99 x203 1 _ _ _ (by omega) (by omega) (by decide) (by have hs : ((sT (i 78 0) (G 79) w ∨ sP (i 78 3) (F 81) (F 82) w) ∨ sT x203 (G 83) w) ↔ ((sT (i 78 0) (G 79) w ∨ sP (i 78 3) (F 81) (F 82) w) ∨ sT k (G 83) w) ∨ G 83 (Int32.toNatClampNeg k) = w := (by rw [show sT x203 (G 83) w ↔ _ from ex_s (t := x203) h1.1 (by omega), ← or_assoc]; rfl); first | exact itA h4 h3 (by assumption) hs | exact itB hs (by first | assumption | exact Or.inl (by assumption) | exact Or.inr (by assumption)) | exact itC h4 (by assumption) hs (by first | assumption | exact fun q => q.elim (by assumption) (by assumption))) hH hS (lv_sub hl [0, 1, 2, 3] rfl)
        · have : Int32.toInt 0 = 0 := rfl
          have c202 := congrArg Int32.toInt c202
          refine lv_aload_n (pc := 112) C0.1 C0.2.1 dX10_isTold_112 rfl (lv_at hl 2 rfl) ?_
          refine xget (pc := 113) C0 hH 78 7 clX10 ⟨Nat.le_of_ble_eq_true rfl, Nat.le_of_ble_eq_true rfl⟩ ⟨rfl, rfl⟩ (Nat.le_of_ble_eq_true rfl) fl_X10_23 (v := .ref (b + 83)) rfl dX10_isTold_113 ?_
          refine lv_iload (pc := 116) C0.1 C0.2.1 dX10_isTold_116 (lv_at hl 0 rfl) ?_
          refine xlald (pc := 118) (N := 4) C0 hH 83 ⟨Nat.le_of_ble_eq_true rfl, Nat.le_of_ble_eq_true rfl⟩ ⟨rfl, rfl⟩ (vI (by omega) (by omega)) dX10_isTold_118 ?_
          refine lv_lload_n (pc := 119) C0.1 C0.2.1 dX10_isTold_119 rfl (lv_at hl 3 rfl) ?_
          refine W.lcmp (pc := 120) C0.1 C0.2.1 dX10_isTold_120 ?_
          refine lv_if_ne (pc := 121) (tgt := 128) C0.1 C0.2.1 dX10_isTold_121 (by decide) (fun c204 => ?_) (fun c204 => ?_)
          · have c204 := fun q => c204 ((lg_cmp_eq _ _).mpr q)
            refine lv_iconst (pc := 128) (v := 0) C0.1 C0.2.1 dX10_isTold_128 (by decide) ?_
            refine lv_istore_n (pc := 129) (lv' := [(3, .int 0), (4, .int k), (0, .ref (b + 78)), (1, .long w)]) C0.1 C0.2.1 dX10_isTold_129 rfl hl (by decide) rfl (fun ls hl => ?_)
            obtain ⟨x205, ex205⟩ : ∃ y_ : Int32, y_ = k + 1 := ⟨_, rfl⟩
            have : Int32.toInt 1 = 1 := rfl
            have hx205 : Int32.toInt x205 = Int32.toInt k + Int32.toInt 1 := by rw [ex205]; exact fb_addI (by omega) (by omega)
            refine lv_iinc (pc := 130) (v := x205) (lv' := [(4, .int x205), (3, .int 0), (0, .ref (b + 78)), (1, .long w)]) C0.1 C0.2.1 dX10_isTold_130 hl (k := 1) rfl (by rw [ex205]; rfl) (by decide) rfl (fun ls hl => ?_)
            refine lv_goto (pc := 133) (tgt := 99) C0.1 C0.2.1 dX10_isTold_133 (by decide) ?_
            exact ih99 x205 0 _ _ _ (by omega) (by omega) (by decide) (by have hs : ((sT (i 78 0) (G 79) w ∨ sP (i 78 3) (F 81) (F 82) w) ∨ sT x205 (G 83) w) ↔ ((sT (i 78 0) (G 79) w ∨ sP (i 78 3) (F 81) (F 82) w) ∨ sT k (G 83) w) ∨ G 83 (Int32.toNatClampNeg k) = w := (by rw [show sT x205 (G 83) w ↔ _ from ex_s (t := x205) h1.1 (by omega), ← or_assoc]; rfl); first | exact itA h4 h3 (by assumption) hs | exact itB hs (by first | assumption | exact Or.inl (by assumption) | exact Or.inr (by assumption)) | exact itC h4 (by assumption) hs (by first | assumption | exact fun q => q.elim (by assumption) (by assumption))) hH hS (lv_sub hl [0, 1, 2, 3] rfl)
          · have c204 := (lg_cmp_eq _ _).mp c204
            refine lv_iconst (pc := 124) (v := 1) C0.1 C0.2.1 dX10_isTold_124 (by decide) ?_
            refine lv_goto (pc := 125) (tgt := 129) C0.1 C0.2.1 dX10_isTold_125 (by decide) ?_
            refine lv_istore_n (pc := 129) (lv' := [(3, .int 1), (4, .int k), (0, .ref (b + 78)), (1, .long w)]) C0.1 C0.2.1 dX10_isTold_129 rfl hl (by decide) rfl (fun ls hl => ?_)
            obtain ⟨x206, ex206⟩ : ∃ y_ : Int32, y_ = k + 1 := ⟨_, rfl⟩
            have : Int32.toInt 1 = 1 := rfl
            have hx206 : Int32.toInt x206 = Int32.toInt k + Int32.toInt 1 := by rw [ex206]; exact fb_addI (by omega) (by omega)
            refine lv_iinc (pc := 130) (v := x206) (lv' := [(4, .int x206), (3, .int 1), (0, .ref (b + 78)), (1, .long w)]) C0.1 C0.2.1 dX10_isTold_130 hl (k := 1) rfl (by rw [ex206]; rfl) (by decide) rfl (fun ls hl => ?_)
            refine lv_goto (pc := 133) (tgt := 99) C0.1 C0.2.1 dX10_isTold_133 (by decide) ?_
            exact ih99 x206 1 _ _ _ (by omega) (by omega) (by decide) (by have hs : ((sT (i 78 0) (G 79) w ∨ sP (i 78 3) (F 81) (F 82) w) ∨ sT x206 (G 83) w) ↔ ((sT (i 78 0) (G 79) w ∨ sP (i 78 3) (F 81) (F 82) w) ∨ sT k (G 83) w) ∨ G 83 (Int32.toNatClampNeg k) = w := (by rw [show sT x206 (G 83) w ↔ _ from ex_s (t := x206) h1.1 (by omega), ← or_assoc]; rfl); first | exact itA h4 h3 (by assumption) hs | exact itB hs (by first | assumption | exact Or.inl (by assumption) | exact Or.inr (by assumption)) | exact itC h4 (by assumption) hs (by first | assumption | exact fun q => q.elim (by assumption) (by assumption))) hH hS (lv_sub hl [0, 1, 2, 3] rfl)
  have L45 : ∀ (d : Nat) (k q : Int32) (H : Heap) (locs : List Loc) (ls : Array Slot), (0 ≤ k.toInt ∧ k.toInt ≤ (i 78 3).toInt) → ((i 78 3).toInt - k.toInt ≤ d) → (q = 0 ∨ q = 1) → (q = 1 ↔ sT (i 78 0) (G 79) w ∨ sP k (F 81) (F 82) w) → Hd D tA b 78 52 zz i F G H → va_S (xA b 78 52) s.heap H locs → lv_has ls 5 [(4, .int k), (3, .int q), (0, .ref (b + 78)), (1, .long w)] → W p l e (xR 0 0) s m ([.ref (b + 78), .long w] : List Value).toArray below meth c H locs 0 0 (MQ below (va_Qi (fun r u => u = (i, F, G) ∧ (r = 0 ∨ r = 1) ∧ (r = 1 ↔ S w)) (xB D tA b 78 52 zz) (xA b 78 52)) ([.ref (b + 78), .long w] : List Value).toArray s 0 0 (xA b 78 52)) (F0 m 45 ls []) := by
    intro d
    induction d with
    | zero =>
      intro k q H locs ls h1 h2 h3 h4 hH hS hl
      have rg_k := fb_rng k
      have rg_q := fb_rng q
      refine lv_iload (pc := 45) C0.1 C0.2.1 dX10_isTold_45 (lv_at hl 0 rfl) ?_
      refine lv_aload_n (pc := 47) C0.1 C0.2.1 dX10_isTold_47 rfl (lv_at hl 2 rfl) ?_
      refine xget (pc := 48) C0 hH 78 3 clX10 ⟨Nat.le_of_ble_eq_true rfl, Nat.le_of_ble_eq_true rfl⟩ ⟨rfl, rfl⟩ (Nat.le_of_ble_eq_true rfl) fl_X10_186 (v := .int (i 78 3)) rfl dX10_isTold_48 ?_
      refine lv_icmp_ge (pc := 51) (tgt := 96) C0.1 C0.2.1 dX10_isTold_51 (by decide) (fun _ => ?_) (fun c => absurd (Int32.le_iff_toInt_le.mpr (by omega)) c)
      refine lv_iconst (pc := 96) (v := 0) C0.1 C0.2.1 dX10_isTold_96 (by decide) ?_
      refine lv_istore (pc := 97) (lv' := [(4, .int 0), (3, .int q), (0, .ref (b + 78)), (1, .long w)]) C0.1 C0.2.1 dX10_isTold_97 hl (by decide) rfl (fun ls hl => ?_)
      exact L99 8 0 q _ _ _ (by have : Int32.toInt 0 = 0 := rfl; omega) (by have : Int32.toInt 0 = 0 := rfl; omega) h3 (by have e := Int32.toInt_inj.mp (show Int32.toInt k = Int32.toInt (i 78 3) from by omega); rw [← e]; exact h4.trans ⟨Or.inl, fun q => q.elim id (fun q => by obtain ⟨j, hj, _⟩ := q; exact absurd hj (by have : Int32.toInt 0 = 0 := rfl; omega))⟩) hH hS (lv_sub hl [0, 1, 2, 3] rfl)
    | succ d ih45 =>
      intro k q H locs ls h1 h2 h3 h4 hH hS hl
      have rg_k := fb_rng k
      have rg_q := fb_rng q
      refine lv_iload (pc := 45) C0.1 C0.2.1 dX10_isTold_45 (lv_at hl 0 rfl) ?_
      refine lv_aload_n (pc := 47) C0.1 C0.2.1 dX10_isTold_47 rfl (lv_at hl 2 rfl) ?_
      refine xget (pc := 48) C0 hH 78 3 clX10 ⟨Nat.le_of_ble_eq_true rfl, Nat.le_of_ble_eq_true rfl⟩ ⟨rfl, rfl⟩ (Nat.le_of_ble_eq_true rfl) fl_X10_186 (v := .int (i 78 3)) rfl dX10_isTold_48 ?_
      refine lv_icmp_ge (pc := 51) (tgt := 96) C0.1 C0.2.1 dX10_isTold_51 (by decide) (fun c201 => ?_) (fun c201 => ?_)
      · have c201 := Int32.le_iff_toInt_le.mp c201
        refine lv_iconst (pc := 96) (v := 0) C0.1 C0.2.1 dX10_isTold_96 (by decide) ?_
        refine lv_istore (pc := 97) (lv' := [(4, .int 0), (3, .int q), (0, .ref (b + 78)), (1, .long w)]) C0.1 C0.2.1 dX10_isTold_97 hl (by decide) rfl (fun ls hl => ?_)
        exact L99 8 0 q _ _ _ (by have : Int32.toInt 0 = 0 := rfl; omega) (by have : Int32.toInt 0 = 0 := rfl; omega) h3 (by have e := Int32.toInt_inj.mp (show Int32.toInt k = Int32.toInt (i 78 3) from by omega); rw [← e]; exact h4.trans ⟨Or.inl, fun q => q.elim id (fun q => by obtain ⟨j, hj, _⟩ := q; exact absurd hj (by have : Int32.toInt 0 = 0 := rfl; omega))⟩) hH hS (lv_sub hl [0, 1, 2, 3] rfl)
      · have c201 : ¬ _ := fun q => c201 (Int32.le_iff_toInt_le.mpr q)
        refine lv_iload_n (pc := 54) C0.1 C0.2.1 dX10_isTold_54 rfl (lv_at hl 1 rfl) ?_
        refine lv_if_ne (pc := 55) (tgt := 84) C0.1 C0.2.1 dX10_isTold_55 (by decide) (fun c202 => ?_) (fun c202 => ?_)
        · have : Int32.toInt 0 = 0 := rfl
          have c202 : ¬ _ := fun q => c202 (Int32.toInt_inj.mp q)
          refine lv_iconst (pc := 84) (v := 1) C0.1 C0.2.1 dX10_isTold_84 (by decide) ?_
          refine lv_goto (pc := 85) (tgt := 89) C0.1 C0.2.1 dX10_isTold_85 (by decide) ?_
          refine lv_istore_n (pc := 89) (lv' := [(3, .int 1), (4, .int k), (0, .ref (b + 78)), (1, .long w)]) C0.1 C0.2.1 dX10_isTold_89 rfl hl (by decide) rfl (fun ls hl => ?_)
          obtain ⟨x203, ex203⟩ : ∃ y_ : Int32, y_ = k + 1 := ⟨_, rfl⟩
          have : Int32.toInt 1 = 1 := rfl
          have hx203 : Int32.toInt x203 = Int32.toInt k + Int32.toInt 1 := by rw [ex203]; exact fb_addI (by omega) (by omega)
          refine lv_iinc (pc := 90) (v := x203) (lv' := [(4, .int x203), (3, .int 1), (0, .ref (b + 78)), (1, .long w)]) C0.1 C0.2.1 dX10_isTold_90 hl (k := 1) rfl (by rw [ex203]; rfl) (by decide) rfl (fun ls hl => ?_)
          refine lv_goto (pc := 93) (tgt := 45) C0.1 C0.2.1 dX10_isTold_93 (by decide) ?_
          exact ih45 x203 1 _ _ _ (by omega) (by omega) (by decide) (by have hs : (sT (i 78 0) (G 79) w ∨ sP x203 (F 81) (F 82) w) ↔ (sT (i 78 0) (G 79) w ∨ sP k (F 81) (F 82) w) ∨ ((F 81 (Int32.toNatClampNeg k)).toInt64 = w ∨ (F 82 (Int32.toNatClampNeg k)).toInt64 = w) := (by rw [show sP x203 (F 81) (F 82) w ↔ _ from ex_s (t := x203) h1.1 (by omega), ← or_assoc]; rfl); first | exact itA h4 h3 (by assumption) hs | exact itB hs (by first | assumption | exact Or.inl (by assumption) | exact Or.inr (by assumption)) | exact itC h4 (by assumption) hs (by first | assumption | exact fun q => q.elim (by assumption) (by assumption))) hH hS (lv_sub hl [0, 1, 2, 3] rfl)
        · have : Int32.toInt 0 = 0 := rfl
          have c202 := congrArg Int32.toInt c202
          refine lv_aload_n (pc := 58) C0.1 C0.2.1 dX10_isTold_58 rfl (lv_at hl 2 rfl) ?_
          refine xget (pc := 59) C0 hH 78 4 clX10 ⟨Nat.le_of_ble_eq_true rfl, Nat.le_of_ble_eq_true rfl⟩ ⟨rfl, rfl⟩ (Nat.le_of_ble_eq_true rfl) fl_X10_17 (v := .ref (b + 81)) rfl dX10_isTold_59 ?_
          refine lv_iload (pc := 62) C0.1 C0.2.1 dX10_isTold_62 (lv_at hl 0 rfl) ?_
          refine xiald (pc := 64) (N := 4) C0 hH 81 ⟨Nat.le_of_ble_eq_true rfl, Nat.le_of_ble_eq_true rfl⟩ ⟨rfl, rfl⟩ (vI (by omega) (by omega)) dX10_isTold_64 ?_
          refine lv_i2l (pc := 65) (v := (F 81 (Int32.toNatClampNeg k)).toInt64) C0.1 C0.2.1 dX10_isTold_65 rfl ?_
          refine lv_lload_n (pc := 66) C0.1 C0.2.1 dX10_isTold_66 rfl (lv_at hl 3 rfl) ?_
          refine W.lcmp (pc := 67) C0.1 C0.2.1 dX10_isTold_67 ?_
          refine lv_if_eq (pc := 68) (tgt := 84) C0.1 C0.2.1 dX10_isTold_68 (by decide) (fun c204 => ?_) (fun c204 => ?_)
          · have c204 := (lg_cmp_eq _ _).mp c204
            refine lv_iconst (pc := 84) (v := 1) C0.1 C0.2.1 dX10_isTold_84 (by decide) ?_
            refine lv_goto (pc := 85) (tgt := 89) C0.1 C0.2.1 dX10_isTold_85 (by decide) ?_
            refine lv_istore_n (pc := 89) (lv' := [(3, .int 1), (4, .int k), (0, .ref (b + 78)), (1, .long w)]) C0.1 C0.2.1 dX10_isTold_89 rfl hl (by decide) rfl (fun ls hl => ?_)
            obtain ⟨x205, ex205⟩ : ∃ y_ : Int32, y_ = k + 1 := ⟨_, rfl⟩
            have : Int32.toInt 1 = 1 := rfl
            have hx205 : Int32.toInt x205 = Int32.toInt k + Int32.toInt 1 := by rw [ex205]; exact fb_addI (by omega) (by omega)
            refine lv_iinc (pc := 90) (v := x205) (lv' := [(4, .int x205), (3, .int 1), (0, .ref (b + 78)), (1, .long w)]) C0.1 C0.2.1 dX10_isTold_90 hl (k := 1) rfl (by rw [ex205]; rfl) (by decide) rfl (fun ls hl => ?_)
            refine lv_goto (pc := 93) (tgt := 45) C0.1 C0.2.1 dX10_isTold_93 (by decide) ?_
            exact ih45 x205 1 _ _ _ (by omega) (by omega) (by decide) (by have hs : (sT (i 78 0) (G 79) w ∨ sP x205 (F 81) (F 82) w) ↔ (sT (i 78 0) (G 79) w ∨ sP k (F 81) (F 82) w) ∨ ((F 81 (Int32.toNatClampNeg k)).toInt64 = w ∨ (F 82 (Int32.toNatClampNeg k)).toInt64 = w) := (by rw [show sP x205 (F 81) (F 82) w ↔ _ from ex_s (t := x205) h1.1 (by omega), ← or_assoc]; rfl); first | exact itA h4 h3 (by assumption) hs | exact itB hs (by first | assumption | exact Or.inl (by assumption) | exact Or.inr (by assumption)) | exact itC h4 (by assumption) hs (by first | assumption | exact fun q => q.elim (by assumption) (by assumption))) hH hS (lv_sub hl [0, 1, 2, 3] rfl)
          · have c204 := fun q => c204 ((lg_cmp_eq _ _).mpr q)
            refine lv_aload_n (pc := 71) C0.1 C0.2.1 dX10_isTold_71 rfl (lv_at hl 2 rfl) ?_
            refine xget (pc := 72) C0 hH 78 5 clX10 ⟨Nat.le_of_ble_eq_true rfl, Nat.le_of_ble_eq_true rfl⟩ ⟨rfl, rfl⟩ (Nat.le_of_ble_eq_true rfl) fl_X10_20 (v := .ref (b + 82)) rfl dX10_isTold_72 ?_
            refine lv_iload (pc := 75) C0.1 C0.2.1 dX10_isTold_75 (lv_at hl 0 rfl) ?_
            refine xiald (pc := 77) (N := 4) C0 hH 82 ⟨Nat.le_of_ble_eq_true rfl, Nat.le_of_ble_eq_true rfl⟩ ⟨rfl, rfl⟩ (vI (by omega) (by omega)) dX10_isTold_77 ?_
            refine lv_i2l (pc := 78) (v := (F 82 (Int32.toNatClampNeg k)).toInt64) C0.1 C0.2.1 dX10_isTold_78 rfl ?_
            refine lv_lload_n (pc := 79) C0.1 C0.2.1 dX10_isTold_79 rfl (lv_at hl 3 rfl) ?_
            refine W.lcmp (pc := 80) C0.1 C0.2.1 dX10_isTold_80 ?_
            refine lv_if_ne (pc := 81) (tgt := 88) C0.1 C0.2.1 dX10_isTold_81 (by decide) (fun c206 => ?_) (fun c206 => ?_)
            · have c206 := fun q => c206 ((lg_cmp_eq _ _).mpr q)
              refine lv_iconst (pc := 88) (v := 0) C0.1 C0.2.1 dX10_isTold_88 (by decide) ?_
              refine lv_istore_n (pc := 89) (lv' := [(3, .int 0), (4, .int k), (0, .ref (b + 78)), (1, .long w)]) C0.1 C0.2.1 dX10_isTold_89 rfl hl (by decide) rfl (fun ls hl => ?_)
              obtain ⟨x207, ex207⟩ : ∃ y_ : Int32, y_ = k + 1 := ⟨_, rfl⟩
              have : Int32.toInt 1 = 1 := rfl
              have hx207 : Int32.toInt x207 = Int32.toInt k + Int32.toInt 1 := by rw [ex207]; exact fb_addI (by omega) (by omega)
              refine lv_iinc (pc := 90) (v := x207) (lv' := [(4, .int x207), (3, .int 0), (0, .ref (b + 78)), (1, .long w)]) C0.1 C0.2.1 dX10_isTold_90 hl (k := 1) rfl (by rw [ex207]; rfl) (by decide) rfl (fun ls hl => ?_)
              refine lv_goto (pc := 93) (tgt := 45) C0.1 C0.2.1 dX10_isTold_93 (by decide) ?_
              exact ih45 x207 0 _ _ _ (by omega) (by omega) (by decide) (by have hs : (sT (i 78 0) (G 79) w ∨ sP x207 (F 81) (F 82) w) ↔ (sT (i 78 0) (G 79) w ∨ sP k (F 81) (F 82) w) ∨ ((F 81 (Int32.toNatClampNeg k)).toInt64 = w ∨ (F 82 (Int32.toNatClampNeg k)).toInt64 = w) := (by rw [show sP x207 (F 81) (F 82) w ↔ _ from ex_s (t := x207) h1.1 (by omega), ← or_assoc]; rfl); first | exact itA h4 h3 (by assumption) hs | exact itB hs (by first | assumption | exact Or.inl (by assumption) | exact Or.inr (by assumption)) | exact itC h4 (by assumption) hs (by first | assumption | exact fun q => q.elim (by assumption) (by assumption))) hH hS (lv_sub hl [0, 1, 2, 3] rfl)
            · have c206 := (lg_cmp_eq _ _).mp c206
              refine lv_iconst (pc := 84) (v := 1) C0.1 C0.2.1 dX10_isTold_84 (by decide) ?_
              refine lv_goto (pc := 85) (tgt := 89) C0.1 C0.2.1 dX10_isTold_85 (by decide) ?_
              refine lv_istore_n (pc := 89) (lv' := [(3, .int 1), (4, .int k), (0, .ref (b + 78)), (1, .long w)]) C0.1 C0.2.1 dX10_isTold_89 rfl hl (by decide) rfl (fun ls hl => ?_)
              obtain ⟨x208, ex208⟩ : ∃ y_ : Int32, y_ = k + 1 := ⟨_, rfl⟩
              have : Int32.toInt 1 = 1 := rfl
              have hx208 : Int32.toInt x208 = Int32.toInt k + Int32.toInt 1 := by rw [ex208]; exact fb_addI (by omega) (by omega)
              refine lv_iinc (pc := 90) (v := x208) (lv' := [(4, .int x208), (3, .int 1), (0, .ref (b + 78)), (1, .long w)]) C0.1 C0.2.1 dX10_isTold_90 hl (k := 1) rfl (by rw [ex208]; rfl) (by decide) rfl (fun ls hl => ?_)
              refine lv_goto (pc := 93) (tgt := 45) C0.1 C0.2.1 dX10_isTold_93 (by decide) ?_
              exact ih45 x208 1 _ _ _ (by omega) (by omega) (by decide) (by have hs : (sT (i 78 0) (G 79) w ∨ sP x208 (F 81) (F 82) w) ↔ (sT (i 78 0) (G 79) w ∨ sP k (F 81) (F 82) w) ∨ ((F 81 (Int32.toNatClampNeg k)).toInt64 = w ∨ (F 82 (Int32.toNatClampNeg k)).toInt64 = w) := (by rw [show sP x208 (F 81) (F 82) w ↔ _ from ex_s (t := x208) h1.1 (by omega), ← or_assoc]; rfl); first | exact itA h4 h3 (by assumption) hs | exact itB hs (by first | assumption | exact Or.inl (by assumption) | exact Or.inr (by assumption)) | exact itC h4 (by assumption) hs (by first | assumption | exact fun q => q.elim (by assumption) (by assumption))) hH hS (lv_sub hl [0, 1, 2, 3] rfl)
  have L5 : ∀ (d : Nat) (k q : Int32) (H : Heap) (locs : List Loc) (ls : Array Slot), (0 ≤ k.toInt ∧ k.toInt ≤ (i 78 0).toInt) → ((i 78 0).toInt - k.toInt ≤ d) → (q = 0 ∨ q = 1) → (q = 1 ↔ sT k (G 79) w) → Hd D tA b 78 52 zz i F G H → va_S (xA b 78 52) s.heap H locs → lv_has ls 5 [(4, .int k), (3, .int q), (0, .ref (b + 78)), (1, .long w)] → W p l e (xR 0 0) s m ([.ref (b + 78), .long w] : List Value).toArray below meth c H locs 0 0 (MQ below (va_Qi (fun r u => u = (i, F, G) ∧ (r = 0 ∨ r = 1) ∧ (r = 1 ↔ S w)) (xB D tA b 78 52 zz) (xA b 78 52)) ([.ref (b + 78), .long w] : List Value).toArray s 0 0 (xA b 78 52)) (F0 m 5 ls []) := by
    intro d
    induction d with
    | zero =>
      intro k q H locs ls h1 h2 h3 h4 hH hS hl
      have rg_k := fb_rng k
      have rg_q := fb_rng q
      refine lv_iload (pc := 5) C0.1 C0.2.1 dX10_isTold_5 (lv_at hl 0 rfl) ?_
      refine lv_aload_n (pc := 7) C0.1 C0.2.1 dX10_isTold_7 rfl (lv_at hl 2 rfl) ?_
      refine xget (pc := 8) C0 hH 78 0 clX10 ⟨Nat.le_of_ble_eq_true rfl, Nat.le_of_ble_eq_true rfl⟩ ⟨rfl, rfl⟩ (Nat.le_of_ble_eq_true rfl) fl_X10_182 (v := .int (i 78 0)) rfl dX10_isTold_8 ?_
      refine lv_icmp_ge (pc := 11) (tgt := 42) C0.1 C0.2.1 dX10_isTold_11 (by decide) (fun _ => ?_) (fun c => absurd (Int32.le_iff_toInt_le.mpr (by omega)) c)
      refine lv_iconst (pc := 42) (v := 0) C0.1 C0.2.1 dX10_isTold_42 (by decide) ?_
      refine lv_istore (pc := 43) (lv' := [(4, .int 0), (3, .int q), (0, .ref (b + 78)), (1, .long w)]) C0.1 C0.2.1 dX10_isTold_43 hl (by decide) rfl (fun ls hl => ?_)
      exact L45 8 0 q _ _ _ (by have : Int32.toInt 0 = 0 := rfl; omega) (by have : Int32.toInt 0 = 0 := rfl; omega) h3 (by have e := Int32.toInt_inj.mp (show Int32.toInt k = Int32.toInt (i 78 0) from by omega); rw [← e]; exact h4.trans ⟨Or.inl, fun q => q.elim id (fun q => by obtain ⟨j, hj, _⟩ := q; exact absurd hj (by have : Int32.toInt 0 = 0 := rfl; omega))⟩) hH hS (lv_sub hl [0, 1, 2, 3] rfl)
    | succ d ih5 =>
      intro k q H locs ls h1 h2 h3 h4 hH hS hl
      have rg_k := fb_rng k
      have rg_q := fb_rng q
      refine lv_iload (pc := 5) C0.1 C0.2.1 dX10_isTold_5 (lv_at hl 0 rfl) ?_
      refine lv_aload_n (pc := 7) C0.1 C0.2.1 dX10_isTold_7 rfl (lv_at hl 2 rfl) ?_
      refine xget (pc := 8) C0 hH 78 0 clX10 ⟨Nat.le_of_ble_eq_true rfl, Nat.le_of_ble_eq_true rfl⟩ ⟨rfl, rfl⟩ (Nat.le_of_ble_eq_true rfl) fl_X10_182 (v := .int (i 78 0)) rfl dX10_isTold_8 ?_
      refine lv_icmp_ge (pc := 11) (tgt := 42) C0.1 C0.2.1 dX10_isTold_11 (by decide) (fun c201 => ?_) (fun c201 => ?_)
      · have c201 := Int32.le_iff_toInt_le.mp c201
        refine lv_iconst (pc := 42) (v := 0) C0.1 C0.2.1 dX10_isTold_42 (by decide) ?_
        refine lv_istore (pc := 43) (lv' := [(4, .int 0), (3, .int q), (0, .ref (b + 78)), (1, .long w)]) C0.1 C0.2.1 dX10_isTold_43 hl (by decide) rfl (fun ls hl => ?_)
        exact L45 8 0 q _ _ _ (by have : Int32.toInt 0 = 0 := rfl; omega) (by have : Int32.toInt 0 = 0 := rfl; omega) h3 (by have e := Int32.toInt_inj.mp (show Int32.toInt k = Int32.toInt (i 78 0) from by omega); rw [← e]; exact h4.trans ⟨Or.inl, fun q => q.elim id (fun q => by obtain ⟨j, hj, _⟩ := q; exact absurd hj (by have : Int32.toInt 0 = 0 := rfl; omega))⟩) hH hS (lv_sub hl [0, 1, 2, 3] rfl)
      · have c201 : ¬ _ := fun q => c201 (Int32.le_iff_toInt_le.mpr q)
        refine lv_iload_n (pc := 14) C0.1 C0.2.1 dX10_isTold_14 rfl (lv_at hl 1 rfl) ?_
        refine lv_if_ne (pc := 15) (tgt := 30) C0.1 C0.2.1 dX10_isTold_15 (by decide) (fun c202 => ?_) (fun c202 => ?_)
        · have : Int32.toInt 0 = 0 := rfl
          have c202 : ¬ _ := fun q => c202 (Int32.toInt_inj.mp q)
          refine lv_iconst (pc := 30) (v := 1) C0.1 C0.2.1 dX10_isTold_30 (by decide) ?_
          refine lv_goto (pc := 31) (tgt := 35) C0.1 C0.2.1 dX10_isTold_31 (by decide) ?_
          refine lv_istore_n (pc := 35) (lv' := [(3, .int 1), (4, .int k), (0, .ref (b + 78)), (1, .long w)]) C0.1 C0.2.1 dX10_isTold_35 rfl hl (by decide) rfl (fun ls hl => ?_)
          obtain ⟨x203, ex203⟩ : ∃ y_ : Int32, y_ = k + 1 := ⟨_, rfl⟩
          have : Int32.toInt 1 = 1 := rfl
          have hx203 : Int32.toInt x203 = Int32.toInt k + Int32.toInt 1 := by rw [ex203]; exact fb_addI (by omega) (by omega)
          refine lv_iinc (pc := 36) (v := x203) (lv' := [(4, .int x203), (3, .int 1), (0, .ref (b + 78)), (1, .long w)]) C0.1 C0.2.1 dX10_isTold_36 hl (k := 1) rfl (by rw [ex203]; rfl) (by decide) rfl (fun ls hl => ?_)
          refine lv_goto (pc := 39) (tgt := 5) C0.1 C0.2.1 dX10_isTold_39 (by decide) ?_
          exact ih5 x203 1 _ _ _ (by omega) (by omega) (by decide) (by have hs : (sT x203 (G 79) w) ↔ (sT k (G 79) w) ∨ G 79 (Int32.toNatClampNeg k) = w := (by rw [show sT x203 (G 79) w ↔ _ from ex_s (t := x203) h1.1 (by omega)]; rfl); first | exact itA h4 h3 (by assumption) hs | exact itB hs (by first | assumption | exact Or.inl (by assumption) | exact Or.inr (by assumption)) | exact itC h4 (by assumption) hs (by first | assumption | exact fun q => q.elim (by assumption) (by assumption))) hH hS (lv_sub hl [0, 1, 2, 3] rfl)
        · have : Int32.toInt 0 = 0 := rfl
          have c202 := congrArg Int32.toInt c202
          refine lv_aload_n (pc := 18) C0.1 C0.2.1 dX10_isTold_18 rfl (lv_at hl 2 rfl) ?_
          refine xget (pc := 19) C0 hH 78 1 clX10 ⟨Nat.le_of_ble_eq_true rfl, Nat.le_of_ble_eq_true rfl⟩ ⟨rfl, rfl⟩ (Nat.le_of_ble_eq_true rfl) fl_X10_7 (v := .ref (b + 79)) rfl dX10_isTold_19 ?_
          refine lv_iload (pc := 22) C0.1 C0.2.1 dX10_isTold_22 (lv_at hl 0 rfl) ?_
          refine xlald (pc := 24) (N := 8) C0 hH 79 ⟨Nat.le_of_ble_eq_true rfl, Nat.le_of_ble_eq_true rfl⟩ ⟨rfl, rfl⟩ (vI (by omega) (by omega)) dX10_isTold_24 ?_
          refine lv_lload_n (pc := 25) C0.1 C0.2.1 dX10_isTold_25 rfl (lv_at hl 3 rfl) ?_
          refine W.lcmp (pc := 26) C0.1 C0.2.1 dX10_isTold_26 ?_
          refine lv_if_ne (pc := 27) (tgt := 34) C0.1 C0.2.1 dX10_isTold_27 (by decide) (fun c204 => ?_) (fun c204 => ?_)
          · have c204 := fun q => c204 ((lg_cmp_eq _ _).mpr q)
            refine lv_iconst (pc := 34) (v := 0) C0.1 C0.2.1 dX10_isTold_34 (by decide) ?_
            refine lv_istore_n (pc := 35) (lv' := [(3, .int 0), (4, .int k), (0, .ref (b + 78)), (1, .long w)]) C0.1 C0.2.1 dX10_isTold_35 rfl hl (by decide) rfl (fun ls hl => ?_)
            obtain ⟨x205, ex205⟩ : ∃ y_ : Int32, y_ = k + 1 := ⟨_, rfl⟩
            have : Int32.toInt 1 = 1 := rfl
            have hx205 : Int32.toInt x205 = Int32.toInt k + Int32.toInt 1 := by rw [ex205]; exact fb_addI (by omega) (by omega)
            refine lv_iinc (pc := 36) (v := x205) (lv' := [(4, .int x205), (3, .int 0), (0, .ref (b + 78)), (1, .long w)]) C0.1 C0.2.1 dX10_isTold_36 hl (k := 1) rfl (by rw [ex205]; rfl) (by decide) rfl (fun ls hl => ?_)
            refine lv_goto (pc := 39) (tgt := 5) C0.1 C0.2.1 dX10_isTold_39 (by decide) ?_
            exact ih5 x205 0 _ _ _ (by omega) (by omega) (by decide) (by have hs : (sT x205 (G 79) w) ↔ (sT k (G 79) w) ∨ G 79 (Int32.toNatClampNeg k) = w := (by rw [show sT x205 (G 79) w ↔ _ from ex_s (t := x205) h1.1 (by omega)]; rfl); first | exact itA h4 h3 (by assumption) hs | exact itB hs (by first | assumption | exact Or.inl (by assumption) | exact Or.inr (by assumption)) | exact itC h4 (by assumption) hs (by first | assumption | exact fun q => q.elim (by assumption) (by assumption))) hH hS (lv_sub hl [0, 1, 2, 3] rfl)
          · have c204 := (lg_cmp_eq _ _).mp c204
            refine lv_iconst (pc := 30) (v := 1) C0.1 C0.2.1 dX10_isTold_30 (by decide) ?_
            refine lv_goto (pc := 31) (tgt := 35) C0.1 C0.2.1 dX10_isTold_31 (by decide) ?_
            refine lv_istore_n (pc := 35) (lv' := [(3, .int 1), (4, .int k), (0, .ref (b + 78)), (1, .long w)]) C0.1 C0.2.1 dX10_isTold_35 rfl hl (by decide) rfl (fun ls hl => ?_)
            obtain ⟨x206, ex206⟩ : ∃ y_ : Int32, y_ = k + 1 := ⟨_, rfl⟩
            have : Int32.toInt 1 = 1 := rfl
            have hx206 : Int32.toInt x206 = Int32.toInt k + Int32.toInt 1 := by rw [ex206]; exact fb_addI (by omega) (by omega)
            refine lv_iinc (pc := 36) (v := x206) (lv' := [(4, .int x206), (3, .int 1), (0, .ref (b + 78)), (1, .long w)]) C0.1 C0.2.1 dX10_isTold_36 hl (k := 1) rfl (by rw [ex206]; rfl) (by decide) rfl (fun ls hl => ?_)
            refine lv_goto (pc := 39) (tgt := 5) C0.1 C0.2.1 dX10_isTold_39 (by decide) ?_
            exact ih5 x206 1 _ _ _ (by omega) (by omega) (by decide) (by have hs : (sT x206 (G 79) w) ↔ (sT k (G 79) w) ∨ G 79 (Int32.toNatClampNeg k) = w := (by rw [show sT x206 (G 79) w ↔ _ from ex_s (t := x206) h1.1 (by omega)]; rfl); first | exact itA h4 h3 (by assumption) hs | exact itB hs (by first | assumption | exact Or.inl (by assumption) | exact Or.inr (by assumption)) | exact itC h4 (by assumption) hs (by first | assumption | exact fun q => q.elim (by assumption) (by assumption))) hH hS (lv_sub hl [0, 1, 2, 3] rfl)
  refine lv_iconst (pc := 0) (v := 0) C0.1 C0.2.1 dX10_isTold_0 (by decide) ?_
  refine lv_istore_n (pc := 1) (lv' := [(3, .int 0), (0, .ref (b + 78)), (1, .long w)]) C0.1 C0.2.1 dX10_isTold_1 rfl hl (by decide) rfl (fun ls hl => ?_)
  refine lv_iconst (pc := 2) (v := 0) C0.1 C0.2.1 dX10_isTold_2 (by decide) ?_
  refine lv_istore (pc := 3) (lv' := [(4, .int 0), (3, .int 0), (0, .ref (b + 78)), (1, .long w)]) C0.1 C0.2.1 dX10_isTold_3 hl (by decide) rfl (fun ls hl => ?_)
  exact L5 8 0 0 _ _ _ (by have : Int32.toInt 0 = 0 := rfl; omega) (by have : Int32.toInt 0 = 0 := rfl; omega) (by decide) ⟨fun q => absurd q (by decide), fun q => by obtain ⟨j, hj, _⟩ := q; exact absurd hj (by have : Int32.toInt 0 = 0 := rfl; omega)⟩ hH hS (lv_sub hl [0, 1, 2, 3] rfl)
