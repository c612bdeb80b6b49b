set_option maxRecDepth 20000 in
theorem fl_X10_399 : Cond.fieldLink RX10 399 (TX10 64).1 (TX10 64).2.1 (TX10 64).2.2.1 ∈ WALL := wm 1088 (by decide +kernel) rfl
set_option maxRecDepth 20000 in
theorem fl_X10_402 : Cond.fieldLink RX10 402 (TX10 65).1 (TX10 65).2.1 (TX10 65).2.2.1 ∈ WALL := wm 1089 (by decide +kernel) rfl
theorem dX10_isWritable_2 : decode cX10_isWritable 2 = .ok (.iload_n 1, 1) := by decide +kernel
theorem dX10_isWritable_3 : decode cX10_isWritable 3 = .ok (.aload_n 0, 1) := by decide +kernel
theorem dX10_isWritable_4 : decode cX10_isWritable 4 = .ok (.getfield 287, 3) := by decide +kernel
theorem dX10_isWritable_7 : decode cX10_isWritable 7 = .ok (.if_icmp .ge 132, 3) := by decide +kernel
theorem dX10_isWritable_139 : decode cX10_isWritable 139 = .ok (.iconst 1, 1) := by decide +kernel
theorem dX10_isWritable_140 : decode cX10_isWritable 140 = .ok (.ireturn, 1) := by decide +kernel
theorem dX10_isWritable_19 : decode cX10_isWritable 19 = .ok (.iload_n 3, 1) := by decide +kernel
theorem dX10_isWritable_20 : decode cX10_isWritable 20 = .ok (.bipush (-9), 2) := by decide +kernel
theorem dX10_isWritable_22 : decode cX10_isWritable 22 = .ok (.if_icmp .eq 111, 3) := by decide +kernel
theorem dX10_isWritable_133 : decode cX10_isWritable 133 = .ok (.iinc 1 1, 3) := by decide +kernel
theorem dX10_isWritable_136 : decode cX10_isWritable 136 = .ok (.goto (-134), 3) := by decide +kernel
theorem dX10_isWritable_25 : decode cX10_isWritable 25 = .ok (.aload_n 0, 1) := by decide +kernel
theorem dX10_isWritable_26 : decode cX10_isWritable 26 = .ok (.getfield 112, 3) := by decide +kernel
theorem dX10_isWritable_29 : decode cX10_isWritable 29 = .ok (.iload_n 3, 1) := by decide +kernel
theorem dX10_isWritable_30 : decode cX10_isWritable 30 = .ok (.iaload, 1) := by decide +kernel
theorem dX10_isWritable_31 : decode cX10_isWritable 31 = .ok (.istore 4, 2) := by decide +kernel
theorem dX10_isWritable_33 : decode cX10_isWritable 33 = .ok (.iload 4, 2) := by decide +kernel
theorem dX10_isWritable_35 : decode cX10_isWritable 35 = .ok (.ifCond .lt 18, 3) := by decide +kernel
theorem dX10_isWritable_53 : decode cX10_isWritable 53 = .ok (.iload 4, 2) := by decide +kernel
theorem dX10_isWritable_55 : decode cX10_isWritable 55 = .ok (.ifCond .ge 32, 3) := by decide +kernel
theorem dX10_isWritable_87 : decode cX10_isWritable 87 = .ok (.iconst 0, 1) := by decide +kernel
theorem dX10_isWritable_88 : decode cX10_isWritable 88 = .ok (.istore_n 2, 1) := by decide +kernel
theorem dX10_isWritable_89 : decode cX10_isWritable 89 = .ok (.iload 4, 2) := by decide +kernel
theorem dX10_isWritable_91 : decode cX10_isWritable 91 = .ok (.ifCond .ge 32, 3) := by decide +kernel
theorem dX10_isWritable_123 : decode cX10_isWritable 123 = .ok (.aload_n 0, 1) := by decide +kernel
theorem dX10_isWritable_124 : decode cX10_isWritable 124 = .ok (.getfield 115, 3) := by decide +kernel
theorem dX10_isWritable_127 : decode cX10_isWritable 127 = .ok (.iload_n 3, 1) := by decide +kernel
theorem dX10_isWritable_128 : decode cX10_isWritable 128 = .ok (.iaload, 1) := by decide +kernel
theorem dX10_isWritable_129 : decode cX10_isWritable 129 = .ok (.istore_n 3, 1) := by decide +kernel
theorem dX10_isWritable_130 : decode cX10_isWritable 130 = .ok (.goto (-111), 3) := by decide +kernel
theorem dX10_isWritable_94 : decode cX10_isWritable 94 = .ok (.aload_n 0, 1) := by decide +kernel
theorem dX10_isWritable_95 : decode cX10_isWritable 95 = .ok (.bipush (-100), 2) := by decide +kernel
theorem dX10_isWritable_97 : decode cX10_isWritable 97 = .ok (.iload 4, 2) := by decide +kernel
theorem dX10_isWritable_99 : decode cX10_isWritable 99 = .ok (.isub, 1) := by decide +kernel
theorem dX10_isWritable_100 : decode cX10_isWritable 100 = .ok (.invokevirtual 387, 3) := by decide +kernel
theorem dX10_isWritable_103 : decode cX10_isWritable 103 = .ok (.ifCond .eq 20, 3) := by decide +kernel
theorem dX10_isWritable_106 : decode cX10_isWritable 106 = .ok (.aload_n 0, 1) := by decide +kernel
theorem dX10_isWritable_107 : decode cX10_isWritable 107 = .ok (.getfield 73, 3) := by decide +kernel
theorem dX10_isWritable_110 : decode cX10_isWritable 110 = .ok (.aload_n 0, 1) := by decide +kernel
theorem dX10_isWritable_111 : decode cX10_isWritable 111 = .ok (.getfield 94, 3) := by decide +kernel
theorem dX10_isWritable_114 : decode cX10_isWritable 114 = .ok (.iload_n 1, 1) := by decide +kernel
theorem dX10_isWritable_115 : decode cX10_isWritable 115 = .ok (.iaload, 1) := by decide +kernel
theorem dX10_isWritable_116 : decode cX10_isWritable 116 = .ok (.iaload, 1) := by decide +kernel
theorem dX10_isWritable_117 : decode cX10_isWritable 117 = .ok (.iconst 4, 1) := by decide +kernel
theorem dX10_isWritable_118 : decode cX10_isWritable 118 = .ok (.if_icmp .ne 5, 3) := by decide +kernel
theorem dX10_isWritable_121 : decode cX10_isWritable 121 = .ok (.iconst 0, 1) := by decide +kernel
theorem dX10_isWritable_122 : decode cX10_isWritable 122 = .ok (.ireturn, 1) := by decide +kernel
theorem dX10_isWritable_58 : decode cX10_isWritable 58 = .ok (.aload_n 0, 1) := by decide +kernel
theorem dX10_isWritable_59 : decode cX10_isWritable 59 = .ok (.bipush (-100), 2) := by decide +kernel
theorem dX10_isWritable_61 : decode cX10_isWritable 61 = .ok (.iload 4, 2) := by decide +kernel
theorem dX10_isWritable_63 : decode cX10_isWritable 63 = .ok (.isub, 1) := by decide +kernel
theorem dX10_isWritable_64 : decode cX10_isWritable 64 = .ok (.invokevirtual 387, 3) := by decide +kernel
theorem dX10_isWritable_67 : decode cX10_isWritable 67 = .ok (.ifCond .eq 20, 3) := by decide +kernel
theorem dX10_isWritable_70 : decode cX10_isWritable 70 = .ok (.aload_n 0, 1) := by decide +kernel
theorem dX10_isWritable_71 : decode cX10_isWritable 71 = .ok (.getfield 85, 3) := by decide +kernel
theorem dX10_isWritable_74 : decode cX10_isWritable 74 = .ok (.bipush (-100), 2) := by decide +kernel
theorem dX10_isWritable_76 : decode cX10_isWritable 76 = .ok (.iload 4, 2) := by decide +kernel
theorem dX10_isWritable_78 : decode cX10_isWritable 78 = .ok (.isub, 1) := by decide +kernel
theorem dX10_isWritable_79 : decode cX10_isWritable 79 = .ok (.iaload, 1) := by decide +kernel
theorem dX10_isWritable_80 : decode cX10_isWritable 80 = .ok (.ifCond .ne 7, 3) := by decide +kernel
theorem dX10_isWritable_83 : decode cX10_isWritable 83 = .ok (.iconst 1, 1) := by decide +kernel
theorem dX10_isWritable_84 : decode cX10_isWritable 84 = .ok (.goto 4, 3) := by decide +kernel
theorem dX10_isWritable_38 : decode cX10_isWritable 38 = .ok (.iload_n 2, 1) := by decide +kernel
theorem dX10_isWritable_39 : decode cX10_isWritable 39 = .ok (.ifCond .eq 14, 3) := by decide +kernel
theorem dX10_isWritable_42 : decode cX10_isWritable 42 = .ok (.aload_n 0, 1) := by decide +kernel
theorem dX10_isWritable_43 : decode cX10_isWritable 43 = .ok (.iload 4, 2) := by decide +kernel
theorem dX10_isWritable_45 : decode cX10_isWritable 45 = .ok (.invokevirtual 307, 3) := by decide +kernel
theorem dX10_isWritable_48 : decode cX10_isWritable 48 = .ok (.ifCond .ne 5, 3) := by decide +kernel
theorem dX10_isWritable_51 : decode cX10_isWritable 51 = .ok (.iconst 0, 1) := by decide +kernel
theorem dX10_isWritable_52 : decode cX10_isWritable 52 = .ok (.ireturn, 1) := by decide +kernel
theorem dX10_isWritable_10 : decode cX10_isWritable 10 = .ok (.iconst 0, 1) := by decide +kernel
theorem dX10_isWritable_11 : decode cX10_isWritable 11 = .ok (.istore_n 2, 1) := by decide +kernel
theorem dX10_isWritable_12 : decode cX10_isWritable 12 = .ok (.aload_n 0, 1) := by decide +kernel
theorem dX10_isWritable_13 : decode cX10_isWritable 13 = .ok (.getfield 106, 3) := by decide +kernel
theorem dX10_isWritable_16 : decode cX10_isWritable 16 = .ok (.iload_n 1, 1) := by decide +kernel
theorem dX10_isWritable_17 : decode cX10_isWritable 17 = .ok (.iaload, 1) := by decide +kernel
theorem dX10_isWritable_18 : decode cX10_isWritable 18 = .ok (.istore_n 3, 1) := by decide +kernel
theorem dX10_isWritable_0 : decode cX10_isWritable 0 = .ok (.iconst 0, 1) := by decide +kernel
theorem dX10_isWritable_1 : decode cX10_isWritable 1 = .ok (.istore_n 1, 1) := by decide +kernel
theorem dX10_beginLine_15 : decode cX10_beginLine 15 = .ok (.iload_n 2, 1) := by decide +kernel
theorem dX10_beginLine_16 : decode cX10_beginLine 16 = .ok (.iload_n 1, 1) := by decide +kernel
theorem dX10_beginLine_17 : decode cX10_beginLine 17 = .ok (.if_icmp .ge 15, 3) := by decide +kernel
theorem dX10_beginLine_32 : decode cX10_beginLine 32 = .ok (.aload_n 0, 1) := by decide +kernel
theorem dX10_beginLine_33 : decode cX10_beginLine 33 = .ok (.iload_n 1, 1) := by decide +kernel
theorem dX10_beginLine_34 : decode cX10_beginLine 34 = .ok (.putfield 399, 3) := by decide +kernel
theorem dX10_beginLine_37 : decode cX10_beginLine 37 = .ok (.aload_n 0, 1) := by decide +kernel
theorem dX10_beginLine_38 : decode cX10_beginLine 38 = .ok (.iconst 1, 1) := by decide +kernel
theorem dX10_beginLine_39 : decode cX10_beginLine 39 = .ok (.putfield 402, 3) := by decide +kernel
theorem dX10_beginLine_42 : decode cX10_beginLine 42 = .ok (.return_, 1) := by decide +kernel
theorem dX10_beginLine_20 : decode cX10_beginLine 20 = .ok (.aload_n 0, 1) := by decide +kernel
theorem dX10_beginLine_21 : decode cX10_beginLine 21 = .ok (.bipush 32, 2) := by decide +kernel
theorem dX10_beginLine_23 : decode cX10_beginLine 23 = .ok (.invokevirtual 372, 3) := by decide +kernel
theorem dX10_beginLine_26 : decode cX10_beginLine 26 = .ok (.iinc 2 1, 3) := by decide +kernel
theorem dX10_beginLine_29 : decode cX10_beginLine 29 = .ok (.goto (-14), 3) := by decide +kernel
theorem dX10_beginLine_0 : decode cX10_beginLine 0 = .ok (.aload_n 0, 1) := by decide +kernel
theorem dX10_beginLine_1 : decode cX10_beginLine 1 = .ok (.getfield 369, 3) := by decide +kernel
theorem dX10_beginLine_4 : decode cX10_beginLine 4 = .ok (.ifCond .le 9, 3) := by decide +kernel
theorem dX10_beginLine_13 : decode cX10_beginLine 13 = .ok (.iconst 0, 1) := by decide +kernel
theorem dX10_beginLine_14 : decode cX10_beginLine 14 = .ok (.istore_n 2, 1) := by decide +kernel
theorem dX10_beginLine_7 : decode cX10_beginLine 7 = .ok (.aload_n 0, 1) := by decide +kernel
theorem dX10_beginLine_8 : decode cX10_beginLine 8 = .ok (.bipush 10, 2) := by decide +kernel
theorem dX10_beginLine_10 : decode cX10_beginLine 10 = .ok (.invokevirtual 372, 3) := by decide +kernel
set_option maxHeartbeats 4000000 in
set_option maxRecDepth 100000 in
theorem m_isWritable (l : Launch) (D : va_G) (tA : Nat → ClassId) (b : Nat) (i F : Nat → Nat → Int32) (G : Nat → Nat → Int64)  (hI : IMm i F) (hBR : BR i) (hGT : GTm i F) : xMI l yX10_isWritable cX10_isWritable 5 (some .boolean) 1 23 D tA b 78 52 i F G [.ref (b + 78)] (fun r u => u = (i, F, G) ∧ (r = 0 ∨ r = 1)) := by
  refine xstart RX10 rfl (by decide) (Nat.le_of_ble_eq_true rfl) ?_
  intro p e s m below meth c ls C0 hr hH hS hl
  have hl : lv_has ls 5 [(0, .ref (b + 78))] := hl
  have hWA := hI.s.wa
  have hGl := GTm.lin hGT
  obtain ⟨⟨nb, ni, np, po, pr, ho, ⟨hnb1, hbl, hil⟩, hTO⟩, -⟩ := hGT
  have hnb := hTO.1
  have L2 : ∀ (d : Nat) (k : Int32) (H : Heap) (locs : List Loc) (ls : Array Slot), (0 ≤ k.toInt ∧ k.toInt ≤ 1202) → ((i 78 40).toInt - k.toInt ≤ d) → Hd D tA b 78 52 zz i F G H → va_S (xA b 78 52) s.heap H locs → lv_has ls 5 [(1, .int k), (0, .ref (b + 78))] → W p l e (xR 1 23) s m ([.ref (b + 78)] : List Value).toArray below meth c H locs 0 0 (MQ below (va_Qi (fun r u => u = (i, F, G) ∧ (r = 0 ∨ r = 1)) (xB D tA b 78 52 zz) (xA b 78 52)) ([.ref (b + 78)] : List Value).toArray s 0 0 (xA b 78 52)) (F0 m 2 ls []) := by
    intro d
    induction d with
    | zero =>
      intro k H locs ls h1 h2 hH hS hl
      have rg_k := fb_rng k
      refine lv_iload_n (pc := 2) C0.1 C0.2.1 dX10_isWritable_2 rfl (lv_at hl 0 rfl) ?_
      refine lv_aload_n (pc := 3) C0.1 C0.2.1 dX10_isWritable_3 rfl (lv_at hl 1 rfl) ?_
      refine xget (pc := 4) C0 hH 78 40 clX10 ⟨Nat.le_of_ble_eq_true rfl, Nat.le_of_ble_eq_true rfl⟩ ⟨rfl, rfl⟩ (Nat.le_of_ble_eq_true rfl) fl_X10_287 (v := .int (i 78 40)) rfl dX10_isWritable_4 ?_
      refine lv_icmp_ge (pc := 7) (tgt := 139) C0.1 C0.2.1 dX10_isWritable_7 (by decide) (fun _ => ?_) (fun c => absurd (Int32.le_iff_toInt_le.mpr (by omega)) c)
      refine lv_iconst (pc := 139) (v := 1) C0.1 C0.2.1 dX10_isWritable_139 (by decide) ?_
      exact xzret (pc := 140) C0 hr hH hS dX10_isWritable_140 (by decide) ⟨rfl, by decide⟩
    | succ d ih2 =>
      intro k H locs ls h1 h2 hH hS hl
      have rg_k := fb_rng k
      have L19 : ∀ (d : Nat) (q p_ : Int32) (H : Heap) (locs : List Loc) (ls : Array Slot), (p_.toInt = -9 ∨ ((0 ≤ p_.toInt ∧ p_.toInt < np) ∧ (np : Int) - p_.toInt ≤ d)) → (k.toInt < (i 78 40).toInt) → Hd D tA b 78 52 zz i F G H → va_S (xA b 78 52) s.heap H locs → lv_has ls 5 [(3, .int p_), (2, .int q), (1, .int k), (0, .ref (b + 78))] → W p l e (xR 1 23) s m ([.ref (b + 78)] : List Value).toArray below meth c H locs 0 0 (MQ below (va_Qi (fun r u => u = (i, F, G) ∧ (r = 0 ∨ r = 1)) (xB D tA b 78 52 zz) (xA b 78 52)) ([.ref (b + 78)] : List Value).toArray s 0 0 (xA b 78 52)) (F0 m 19 ls []) := by
        intro d
        induction d with
        | zero =>
          intro q p_ H locs ls g1 g2 hH hS hl
          have rg_q := fb_rng q
          have rg_p_ := fb_rng p_
          refine lv_iload_n (pc := 19) C0.1 C0.2.1 dX10_isWritable_19 rfl (lv_at hl 0 rfl) ?_
          refine lv_bipush (pc := 20) (v := (-9)) C0.1 C0.2.1 dX10_isWritable_20 (by decide) ?_
          have : Int32.toInt (-9) = (-9) := rfl
          refine lv_icmp_eq (pc := 22) (tgt := 133) C0.1 C0.2.1 dX10_isWritable_22 (by decide) (fun _ => ?_) (fun c => absurd (Int32.toInt_inj.mp (by omega)) c)
          obtain ⟨x301, ex301⟩ : ∃ y_ : Int32, y_ = k + 1 := ⟨_, rfl⟩
          have : Int32.toInt 1 = 1 := rfl
          have hx301 : Int32.toInt x301 = Int32.toInt k + Int32.toInt 1 := by rw [ex301]; exact fb_addI (by omega) (by omega)
          refine lv_iinc (pc := 133) (v := x301) (lv' := [(1, .int x301), (3, .int p_), (2, .int q), (0, .ref (b + 78))]) C0.1 C0.2.1 dX10_isWritable_133 hl (k := 2) rfl (by rw [ex301]; rfl) (by decide) rfl (fun ls hl => ?_)
          refine lv_goto (pc := 136) (tgt := 2) C0.1 C0.2.1 dX10_isWritable_136 (by decide) ?_
          exact ih2 x301 _ _ _ (by omega) (by omega) hH hS (lv_sub hl [0, 3] rfl)
        | succ d ih19 =>
          intro q p_ H locs ls g1 g2 hH hS hl
          have rg_q := fb_rng q
          have rg_p_ := fb_rng p_
          refine lv_iload_n (pc := 19) C0.1 C0.2.1 dX10_isWritable_19 rfl (lv_at hl 0 rfl) ?_
          refine lv_bipush (pc := 20) (v := (-9)) C0.1 C0.2.1 dX10_isWritable_20 (by decide) ?_
          refine lv_icmp_eq (pc := 22) (tgt := 133) C0.1 C0.2.1 dX10_isWritable_22 (by decide) (fun c301 => ?_) (fun c301 => ?_)
          · have : Int32.toInt (-9) = (-9) := rfl
            have c301 := congrArg Int32.toInt c301
            obtain ⟨x302, ex302⟩ : ∃ y_ : Int32, y_ = k + 1 := ⟨_, rfl⟩
            have : Int32.toInt 1 = 1 := rfl
            have hx302 : Int32.toInt x302 = Int32.toInt k + Int32.toInt 1 := by rw [ex302]; exact fb_addI (by omega) (by omega)
            refine lv_iinc (pc := 133) (v := x302) (lv' := [(1, .int x302), (3, .int p_), (2, .int q), (0, .ref (b + 78))]) C0.1 C0.2.1 dX10_isWritable_133 hl (k := 2) rfl (by rw [ex302]; rfl) (by decide) rfl (fun ls hl => ?_)
            refine lv_goto (pc := 136) (tgt := 2) C0.1 C0.2.1 dX10_isWritable_136 (by decide) ?_
            exact ih2 x302 _ _ _ (by omega) (by omega) hH hS (lv_sub hl [0, 3] rfl)
          · have : Int32.toInt (-9) = (-9) := rfl
            have c301 : ¬ _ := fun q => c301 (Int32.toInt_inj.mp q)
            have hp0 := g1.resolve_left (fun q => by have : Int32.toInt (-9) = -9 := rfl; omega)
            have hcp := clI (x := p_) hp0.1.1
            have hR := hTO.2.2.2.2.2 (Int32.toNatClampNeg p_) (by omega)
            refine lv_aload_n (pc := 25) C0.1 C0.2.1 dX10_isWritable_25 rfl (lv_at hl 3 rfl) ?_
            refine xget (pc := 26) C0 hH 78 48 clX10 ⟨Nat.le_of_ble_eq_true rfl, Nat.le_of_ble_eq_true rfl⟩ ⟨rfl, rfl⟩ (Nat.le_of_ble_eq_true rfl) fl_X10_112 (v := .ref (b + 111)) rfl dX10_isWritable_26 ?_
            refine lv_iload_n (pc := 29) C0.1 C0.2.1 dX10_isWritable_29 rfl (lv_at hl 0 rfl) ?_
            refine xiald (pc := 30) (N := 1802) C0 hH 111 ⟨Nat.le_of_ble_eq_true rfl, Nat.le_of_ble_eq_true rfl⟩ ⟨rfl, rfl⟩ (vI (by omega) (by omega)) dX10_isWritable_30 ?_
            refine lv_topi (fun x303 ex303 => ?_)
            refine lv_istore (pc := 31) (lv' := [(4, .int x303), (3, .int p_), (2, .int q), (1, .int k), (0, .ref (b + 78))]) C0.1 C0.2.1 dX10_isWritable_31 hl (by decide) rfl (fun ls hl => ?_)
            have hvv : (0 ≤ Int32.toInt x303 ∧ Int32.toInt x303 < 600) ∨ (Int32.toInt x303 ≤ -101 ∧ -100 - Int32.toInt x303 < nb) := by
              have q0 := hR.2.2
              unfold okV at q0
              rw [← ex303] at q0
              rcases q0 with q | q
              · exact Or.inl q
              · exact Or.inr ⟨q.1, q.2.1⟩
            refine lv_iload (pc := 33) C0.1 C0.2.1 dX10_isWritable_33 (lv_at hl 0 rfl) ?_
            refine lv_if_lt (pc := 35) (tgt := 53) C0.1 C0.2.1 dX10_isWritable_35 (by decide) (fun c304 => ?_) (fun c304 => ?_)
            · have : Int32.toInt 0 = 0 := rfl
              have c304 := Int32.lt_iff_toInt_lt.mp c304
              refine lv_iload (pc := 53) C0.1 C0.2.1 dX10_isWritable_53 (lv_at hl 0 rfl) ?_
              refine lv_if_ge (pc := 55) (tgt := 87) C0.1 C0.2.1 dX10_isWritable_55 (by decide) (fun c305 => ?_) (fun c305 => ?_)
              · have : Int32.toInt 0 = 0 := rfl
                have c305 := Int32.le_iff_toInt_le.mp c305
                refine lv_iconst (pc := 87) (v := 0) C0.1 C0.2.1 dX10_isWritable_87 (by decide) ?_
                refine lv_istore_n (pc := 88) (lv' := [(2, .int 0), (4, .int x303), (3, .int p_), (1, .int k), (0, .ref (b + 78))]) C0.1 C0.2.1 dX10_isWritable_88 rfl hl (by decide) rfl (fun ls hl => ?_)
                refine lv_iload (pc := 89) C0.1 C0.2.1 dX10_isWritable_89 (lv_at hl 1 rfl) ?_
                refine lv_if_ge (pc := 91) (tgt := 123) C0.1 C0.2.1 dX10_isWritable_91 (by decide) (fun c306 => ?_) (fun c306 => ?_)
                · have : Int32.toInt 0 = 0 := rfl
                  have c306 := Int32.le_iff_toInt_le.mp c306
                  refine lv_aload_n (pc := 123) C0.1 C0.2.1 dX10_isWritable_123 rfl (lv_at hl 4 rfl) ?_
                  refine xget (pc := 124) C0 hH 78 49 clX10 ⟨Nat.le_of_ble_eq_true rfl, Nat.le_of_ble_eq_true rfl⟩ ⟨rfl, rfl⟩ (Nat.le_of_ble_eq_true rfl) fl_X10_115 (v := .ref (b + 112)) rfl dX10_isWritable_124 ?_
                  refine lv_iload_n (pc := 127) C0.1 C0.2.1 dX10_isWritable_127 rfl (lv_at hl 2 rfl) ?_
                  refine xiald (pc := 128) (N := 1802) C0 hH 112 ⟨Nat.le_of_ble_eq_true rfl, Nat.le_of_ble_eq_true rfl⟩ ⟨rfl, rfl⟩ (vI (by omega) (by omega)) dX10_isWritable_128 ?_
                  refine lv_topi (fun x307 ex307 => ?_)
                  refine lv_istore_n (pc := 129) (lv' := [(3, .int x307), (2, .int 0), (4, .int x303), (1, .int k), (0, .ref (b + 78))]) C0.1 C0.2.1 dX10_isWritable_129 rfl hl (by decide) rfl (fun ls hl => ?_)
                  refine lv_goto (pc := 130) (tgt := 19) C0.1 C0.2.1 dX10_isWritable_130 (by decide) ?_
                  exact ih19 0 x307 _ _ _ (by have q0 := hR.2.1; unfold okN at q0; rw [← show x307 = F 112 (cl p_) from ex307] at q0; rcases q0 with q | q; exact Or.inl q.1; exact Or.inr ⟨⟨by have := q.1; omega, by have := q.1; omega⟩, by have := q.1; omega⟩) g2 hH hS (lv_sub hl [0, 1, 3, 4] rfl)
                · have : Int32.toInt 0 = 0 := rfl
                  have c306 : ¬ _ := fun q => c306 (Int32.le_iff_toInt_le.mpr q)
                  refine lv_aload_n (pc := 94) C0.1 C0.2.1 dX10_isWritable_94 rfl (lv_at hl 4 rfl) ?_
                  refine lv_bipush (pc := 95) (v := (-100)) C0.1 C0.2.1 dX10_isWritable_95 (by decide) ?_
                  refine lv_iload (pc := 97) C0.1 C0.2.1 dX10_isWritable_97 (lv_at hl 1 rfl) ?_
                  have : Int32.toInt (-100) = (-100) := rfl
                  refine lv_isub (pc := 99) C0.1 C0.2.1 dX10_isWritable_99 ?_
                  refine lv_topi (fun x308 ex308 => ?_)
                  have hx308 : Int32.toInt x308 = Int32.toInt (-100) - Int32.toInt x303 := by rw [ex308]; exact fb_subI (by omega) (by omega)
                  refine xcVI (pc := 100) 78 [.int x308] (m_isStanding l D tA b i F G x308 (show 0 ≤ Int32.toInt x308 ∧ Int32.toInt x308 < 1202 from by omega)) C0 hH hS clX10 rfl ⟨⟨Nat.le_of_ble_eq_true rfl, Nat.le_of_ble_eq_true rfl⟩, rfl, rfl⟩ cw_X10_387 rfl ⟨Nat.le_of_ble_eq_true rfl, Nat.le_of_ble_eq_true rfl⟩ hl.1 rfl (Nat.le_of_ble_eq_true rfl) dX10_isWritable_100 ⟨Nat.le_of_ble_eq_true rfl, Nat.le_of_ble_eq_true rfl⟩ (fun r309 ir309 Fr309 Gr309 _ locs hp hH hS => ?_)
                  obtain ⟨hu, h01r309⟩ := hp
                  cases hu
                  refine lv_if_eq (pc := 103) (tgt := 123) C0.1 C0.2.1 dX10_isWritable_103 (by decide) (fun c310 => ?_) (fun c310 => ?_)
                  · have : Int32.toInt 0 = 0 := rfl
                    have c310 := congrArg Int32.toInt c310
                    refine lv_aload_n (pc := 123) C0.1 C0.2.1 dX10_isWritable_123 rfl (lv_at hl 4 rfl) ?_
                    refine xget (pc := 124) C0 hH 78 49 clX10 ⟨Nat.le_of_ble_eq_true rfl, Nat.le_of_ble_eq_true rfl⟩ ⟨rfl, rfl⟩ (Nat.le_of_ble_eq_true rfl) fl_X10_115 (v := .ref (b + 112)) rfl dX10_isWritable_124 ?_
                    refine lv_iload_n (pc := 127) C0.1 C0.2.1 dX10_isWritable_127 rfl (lv_at hl 2 rfl) ?_
                    refine xiald (pc := 128) (N := 1802) C0 hH 112 ⟨Nat.le_of_ble_eq_true rfl, Nat.le_of_ble_eq_true rfl⟩ ⟨rfl, rfl⟩ (vI (by omega) (by omega)) dX10_isWritable_128 ?_
                    refine lv_topi (fun x311 ex311 => ?_)
                    refine lv_istore_n (pc := 129) (lv' := [(3, .int x311), (2, .int 0), (4, .int x303), (1, .int k), (0, .ref (b + 78))]) C0.1 C0.2.1 dX10_isWritable_129 rfl hl (by decide) rfl (fun ls hl => ?_)
                    refine lv_goto (pc := 130) (tgt := 19) C0.1 C0.2.1 dX10_isWritable_130 (by decide) ?_
                    exact ih19 0 x311 _ _ _ (by have q0 := hR.2.1; unfold okN at q0; rw [← show x311 = F 112 (cl p_) from ex311] at q0; rcases q0 with q | q; exact Or.inl q.1; exact Or.inr ⟨⟨by have := q.1; omega, by have := q.1; omega⟩, by have := q.1; omega⟩) g2 hH hS (lv_sub hl [0, 1, 3, 4] rfl)
                  · have : Int32.toInt 0 = 0 := rfl
                    have c310 : ¬ _ := fun q => c310 (Int32.toInt_inj.mp q)
                    refine lv_aload_n (pc := 106) C0.1 C0.2.1 dX10_isWritable_106 rfl (lv_at hl 4 rfl) ?_
                    refine xget (pc := 107) C0 hH 78 33 clX10 ⟨Nat.le_of_ble_eq_true rfl, Nat.le_of_ble_eq_true rfl⟩ ⟨rfl, rfl⟩ (Nat.le_of_ble_eq_true rfl) fl_X10_73 (v := .ref (b + 98)) rfl dX10_isWritable_107 ?_
                    refine lv_aload_n (pc := 110) C0.1 C0.2.1 dX10_isWritable_110 rfl (lv_at hl 4 rfl) ?_
                    refine xget (pc := 111) C0 hH 78 41 clX10 ⟨Nat.le_of_ble_eq_true rfl, Nat.le_of_ble_eq_true rfl⟩ ⟨rfl, rfl⟩ (Nat.le_of_ble_eq_true rfl) fl_X10_94 (v := .ref (b + 105)) rfl dX10_isWritable_111 ?_
                    refine lv_iload_n (pc := 114) C0.1 C0.2.1 dX10_isWritable_114 rfl (lv_at hl 3 rfl) ?_
                    refine xiald (pc := 115) (N := 1202) C0 hH 105 ⟨Nat.le_of_ble_eq_true rfl, Nat.le_of_ble_eq_true rfl⟩ ⟨rfl, rfl⟩ (vI (by omega) (by omega)) dX10_isWritable_115 ?_
                    refine xiald (pc := 116) (N := 1202) C0 hH 98 ⟨Nat.le_of_ble_eq_true rfl, Nat.le_of_ble_eq_true rfl⟩ ⟨rfl, rfl⟩ (vI (hWA.ib _).1 (hWA.ib _).2) dX10_isWritable_116 ?_
                    refine lv_iconst (pc := 117) (v := 4) C0.1 C0.2.1 dX10_isWritable_117 (by decide) ?_
                    refine lv_icmp_ne (pc := 118) (tgt := 123) C0.1 C0.2.1 dX10_isWritable_118 (by decide) (fun c312 => ?_) (fun c312 => ?_)
                    · have : Int32.toInt 4 = 4 := rfl
                      have c312 : ¬ _ := fun q => c312 (Int32.toInt_inj.mp q)
                      refine lv_aload_n (pc := 123) C0.1 C0.2.1 dX10_isWritable_123 rfl (lv_at hl 4 rfl) ?_
                      refine xget (pc := 124) C0 hH 78 49 clX10 ⟨Nat.le_of_ble_eq_true rfl, Nat.le_of_ble_eq_true rfl⟩ ⟨rfl, rfl⟩ (Nat.le_of_ble_eq_true rfl) fl_X10_115 (v := .ref (b + 112)) rfl dX10_isWritable_124 ?_
                      refine lv_iload_n (pc := 127) C0.1 C0.2.1 dX10_isWritable_127 rfl (lv_at hl 2 rfl) ?_
                      refine xiald (pc := 128) (N := 1802) C0 hH 112 ⟨Nat.le_of_ble_eq_true rfl, Nat.le_of_ble_eq_true rfl⟩ ⟨rfl, rfl⟩ (vI (by omega) (by omega)) dX10_isWritable_128 ?_
                      refine lv_topi (fun x313 ex313 => ?_)
                      refine lv_istore_n (pc := 129) (lv' := [(3, .int x313), (2, .int 0), (4, .int x303), (1, .int k), (0, .ref (b + 78))]) C0.1 C0.2.1 dX10_isWritable_129 rfl hl (by decide) rfl (fun ls hl => ?_)
                      refine lv_goto (pc := 130) (tgt := 19) C0.1 C0.2.1 dX10_isWritable_130 (by decide) ?_
                      exact ih19 0 x313 _ _ _ (by have q0 := hR.2.1; unfold okN at q0; rw [← show x313 = F 112 (cl p_) from ex313] at q0; rcases q0 with q | q; exact Or.inl q.1; exact Or.inr ⟨⟨by have := q.1; omega, by have := q.1; omega⟩, by have := q.1; omega⟩) g2 hH hS (lv_sub hl [0, 1, 3, 4] rfl)
                    · have : Int32.toInt 4 = 4 := rfl
                      have c312 := congrArg Int32.toInt c312
                      refine lv_iconst (pc := 121) (v := 0) C0.1 C0.2.1 dX10_isWritable_121 (by decide) ?_
                      exact xzret (pc := 122) C0 hr hH hS dX10_isWritable_122 (by decide) ⟨rfl, by decide⟩
              · have : Int32.toInt 0 = 0 := rfl
                have c305 : ¬ _ := fun q => c305 (Int32.le_iff_toInt_le.mpr q)
                refine lv_aload_n (pc := 58) C0.1 C0.2.1 dX10_isWritable_58 rfl (lv_at hl 4 rfl) ?_
                refine lv_bipush (pc := 59) (v := (-100)) C0.1 C0.2.1 dX10_isWritable_59 (by decide) ?_
                refine lv_iload (pc := 61) C0.1 C0.2.1 dX10_isWritable_61 (lv_at hl 0 rfl) ?_
                have : Int32.toInt (-100) = (-100) := rfl
                refine lv_isub (pc := 63) C0.1 C0.2.1 dX10_isWritable_63 ?_
                refine lv_topi (fun x314 ex314 => ?_)
                have hx314 : Int32.toInt x314 = Int32.toInt (-100) - Int32.toInt x303 := by rw [ex314]; exact fb_subI (by omega) (by omega)
                refine xcVI (pc := 64) 78 [.int x314] (m_isStanding l D tA b i F G x314 (show 0 ≤ Int32.toInt x314 ∧ Int32.toInt x314 < 1202 from by omega)) C0 hH hS clX10 rfl ⟨⟨Nat.le_of_ble_eq_true rfl, Nat.le_of_ble_eq_true rfl⟩, rfl, rfl⟩ cw_X10_387 rfl ⟨Nat.le_of_ble_eq_true rfl, Nat.le_of_ble_eq_true rfl⟩ hl.1 rfl (Nat.le_of_ble_eq_true rfl) dX10_isWritable_64 ⟨Nat.le_of_ble_eq_true rfl, Nat.le_of_ble_eq_true rfl⟩ (fun r315 ir315 Fr315 Gr315 _ locs hp hH hS => ?_)
                obtain ⟨hu, h01r315⟩ := hp
                cases hu
                refine lv_if_eq (pc := 67) (tgt := 87) C0.1 C0.2.1 dX10_isWritable_67 (by decide) (fun c316 => ?_) (fun c316 => ?_)
                · have : Int32.toInt 0 = 0 := rfl
                  have c316 := congrArg Int32.toInt c316
                  refine lv_iconst (pc := 87) (v := 0) C0.1 C0.2.1 dX10_isWritable_87 (by decide) ?_
                  refine lv_istore_n (pc := 88) (lv' := [(2, .int 0), (4, .int x303), (3, .int p_), (1, .int k), (0, .ref (b + 78))]) C0.1 C0.2.1 dX10_isWritable_88 rfl hl (by decide) rfl (fun ls hl => ?_)
                  refine lv_iload (pc := 89) C0.1 C0.2.1 dX10_isWritable_89 (lv_at hl 1 rfl) ?_
                  refine lv_if_ge (pc := 91) (tgt := 123) C0.1 C0.2.1 dX10_isWritable_91 (by decide) (fun c317 => ?_) (fun c317 => ?_)
                  · have : Int32.toInt 0 = 0 := rfl
                    have c317 := Int32.le_iff_toInt_le.mp c317
                    refine lv_aload_n (pc := 123) C0.1 C0.2.1 dX10_isWritable_123 rfl (lv_at hl 4 rfl) ?_
                    refine xget (pc := 124) C0 hH 78 49 clX10 ⟨Nat.le_of_ble_eq_true rfl, Nat.le_of_ble_eq_true rfl⟩ ⟨rfl, rfl⟩ (Nat.le_of_ble_eq_true rfl) fl_X10_115 (v := .ref (b + 112)) rfl dX10_isWritable_124 ?_
                    refine lv_iload_n (pc := 127) C0.1 C0.2.1 dX10_isWritable_127 rfl (lv_at hl 2 rfl) ?_
                    refine xiald (pc := 128) (N := 1802) C0 hH 112 ⟨Nat.le_of_ble_eq_true rfl, Nat.le_of_ble_eq_true rfl⟩ ⟨rfl, rfl⟩ (vI (by omega) (by omega)) dX10_isWritable_128 ?_
                    refine lv_topi (fun x318 ex318 => ?_)
                    refine lv_istore_n (pc := 129) (lv' := [(3, .int x318), (2, .int 0), (4, .int x303), (1, .int k), (0, .ref (b + 78))]) C0.1 C0.2.1 dX10_isWritable_129 rfl hl (by decide) rfl (fun ls hl => ?_)
                    refine lv_goto (pc := 130) (tgt := 19) C0.1 C0.2.1 dX10_isWritable_130 (by decide) ?_
                    exact ih19 0 x318 _ _ _ (by have q0 := hR.2.1; unfold okN at q0; rw [← show x318 = F 112 (cl p_) from ex318] at q0; rcases q0 with q | q; exact Or.inl q.1; exact Or.inr ⟨⟨by have := q.1; omega, by have := q.1; omega⟩, by have := q.1; omega⟩) g2 hH hS (lv_sub hl [0, 1, 3, 4] rfl)
                  · have : Int32.toInt 0 = 0 := rfl
                    have c317 : ¬ _ := fun q => c317 (Int32.le_iff_toInt_le.mpr q)
                    refine lv_aload_n (pc := 94) C0.1 C0.2.1 dX10_isWritable_94 rfl (lv_at hl 4 rfl) ?_
                    refine lv_bipush (pc := 95) (v := (-100)) C0.1 C0.2.1 dX10_isWritable_95 (by decide) ?_
                    refine lv_iload (pc := 97) C0.1 C0.2.1 dX10_isWritable_97 (lv_at hl 1 rfl) ?_
                    have : Int32.toInt (-100) = (-100) := rfl
                    refine lv_isub (pc := 99) C0.1 C0.2.1 dX10_isWritable_99 ?_
                    refine lv_topi (fun x319 ex319 => ?_)
                    have hx319 : Int32.toInt x319 = Int32.toInt (-100) - Int32.toInt x303 := by rw [ex319]; exact fb_subI (by omega) (by omega)
                    refine xcVI (pc := 100) 78 [.int x319] (m_isStanding l D tA b i F G x319 (show 0 ≤ Int32.toInt x319 ∧ Int32.toInt x319 < 1202 from by omega)) C0 hH hS clX10 rfl ⟨⟨Nat.le_of_ble_eq_true rfl, Nat.le_of_ble_eq_true rfl⟩, rfl, rfl⟩ cw_X10_387 rfl ⟨Nat.le_of_ble_eq_true rfl, Nat.le_of_ble_eq_true rfl⟩ hl.1 rfl (Nat.le_of_ble_eq_true rfl) dX10_isWritable_100 ⟨Nat.le_of_ble_eq_true rfl, Nat.le_of_ble_eq_true rfl⟩ (fun r320 ir320 Fr320 Gr320 _ locs hp hH hS => ?_)
                    obtain ⟨hu, h01r320⟩ := hp
                    cases hu
                    refine lv_if_eq (pc := 103) (tgt := 123) C0.1 C0.2.1 dX10_isWritable_103 (by decide) (fun c321 => ?_) (fun c321 => ?_)
                    · have : Int32.toInt 0 = 0 := rfl
                      have c321 := congrArg Int32.toInt c321
                      refine lv_aload_n (pc := 123) C0.1 C0.2.1 dX10_isWritable_123 rfl (lv_at hl 4 rfl) ?_
                      refine xget (pc := 124) C0 hH 78 49 clX10 ⟨Nat.le_of_ble_eq_true rfl, Nat.le_of_ble_eq_true rfl⟩ ⟨rfl, rfl⟩ (Nat.le_of_ble_eq_true rfl) fl_X10_115 (v := .ref (b + 112)) rfl dX10_isWritable_124 ?_
                      refine lv_iload_n (pc := 127) C0.1 C0.2.1 dX10_isWritable_127 rfl (lv_at hl 2 rfl) ?_
                      refine xiald (pc := 128) (N := 1802) C0 hH 112 ⟨Nat.le_of_ble_eq_true rfl, Nat.le_of_ble_eq_true rfl⟩ ⟨rfl, rfl⟩ (vI (by omega) (by omega)) dX10_isWritable_128 ?_
                      refine lv_topi (fun x322 ex322 => ?_)
                      refine lv_istore_n (pc := 129) (lv' := [(3, .int x322), (2, .int 0), (4, .int x303), (1, .int k), (0, .ref (b + 78))]) C0.1 C0.2.1 dX10_isWritable_129 rfl hl (by decide) rfl (fun ls hl => ?_)
                      refine lv_goto (pc := 130) (tgt := 19) C0.1 C0.2.1 dX10_isWritable_130 (by decide) ?_
                      exact ih19 0 x322 _ _ _ (by have q0 := hR.2.1; unfold okN at q0; rw [← show x322 = F 112 (cl p_) from ex322] at q0; rcases q0 with q | q; exact Or.inl q.1; exact Or.inr ⟨⟨by have := q.1; omega, by have := q.1; omega⟩, by have := q.1; omega⟩) g2 hH hS (lv_sub hl [0, 1, 3, 4] rfl)
                    · have : Int32.toInt 0 = 0 := rfl
                      have c321 : ¬ _ := fun q => c321 (Int32.toInt_inj.mp q)
                      refine lv_aload_n (pc := 106) C0.1 C0.2.1 dX10_isWritable_106 rfl (lv_at hl 4 rfl) ?_
                      refine xget (pc := 107) C0 hH 78 33 clX10 ⟨Nat.le_of_ble_eq_true rfl, Nat.le_of_ble_eq_true rfl⟩ ⟨rfl, rfl⟩ (Nat.le_of_ble_eq_true rfl) fl_X10_73 (v := .ref (b + 98)) rfl dX10_isWritable_107 ?_
                      refine lv_aload_n (pc := 110) C0.1 C0.2.1 dX10_isWritable_110 rfl (lv_at hl 4 rfl) ?_
                      refine xget (pc := 111) C0 hH 78 41 clX10 ⟨Nat.le_of_ble_eq_true rfl, Nat.le_of_ble_eq_true rfl⟩ ⟨rfl, rfl⟩ (Nat.le_of_ble_eq_true rfl) fl_X10_94 (v := .ref (b + 105)) rfl dX10_isWritable_111 ?_
                      refine lv_iload_n (pc := 114) C0.1 C0.2.1 dX10_isWritable_114 rfl (lv_at hl 3 rfl) ?_
                      refine xiald (pc := 115) (N := 1202) C0 hH 105 ⟨Nat.le_of_ble_eq_true rfl, Nat.le_of_ble_eq_true rfl⟩ ⟨rfl, rfl⟩ (vI (by omega) (by omega)) dX10_isWritable_115 ?_
                      refine xiald (pc := 116) (N := 1202) C0 hH 98 ⟨Nat.le_of_ble_eq_true rfl, Nat.le_of_ble_eq_true rfl⟩ ⟨rfl, rfl⟩ (vI (hWA.ib _).1 (hWA.ib _).2) dX10_isWritable_116 ?_
                      refine lv_iconst (pc := 117) (v := 4) C0.1 C0.2.1 dX10_isWritable_117 (by decide) ?_
                      refine lv_icmp_ne (pc := 118) (tgt := 123) C0.1 C0.2.1 dX10_isWritable_118 (by decide) (fun c323 => ?_) (fun c323 => ?_)
                      · have : Int32.toInt 4 = 4 := rfl
                        have c323 : ¬ _ := fun q => c323 (Int32.toInt_inj.mp q)
                        refine lv_aload_n (pc := 123) C0.1 C0.2.1 dX10_isWritable_123 rfl (lv_at hl 4 rfl) ?_
                        refine xget (pc := 124) C0 hH 78 49 clX10 ⟨Nat.le_of_ble_eq_true rfl, Nat.le_of_ble_eq_true rfl⟩ ⟨rfl, rfl⟩ (Nat.le_of_ble_eq_true rfl) fl_X10_115 (v := .ref (b + 112)) rfl dX10_isWritable_124 ?_
                        refine lv_iload_n (pc := 127) C0.1 C0.2.1 dX10_isWritable_127 rfl (lv_at hl 2 rfl) ?_
                        refine xiald (pc := 128) (N := 1802) C0 hH 112 ⟨Nat.le_of_ble_eq_true rfl, Nat.le_of_ble_eq_true rfl⟩ ⟨rfl, rfl⟩ (vI (by omega) (by omega)) dX10_isWritable_128 ?_
                        refine lv_topi (fun x324 ex324 => ?_)
                        refine lv_istore_n (pc := 129) (lv' := [(3, .int x324), (2, .int 0), (4, .int x303), (1, .int k), (0, .ref (b + 78))]) C0.1 C0.2.1 dX10_isWritable_129 rfl hl (by decide) rfl (fun ls hl => ?_)
                        refine lv_goto (pc := 130) (tgt := 19) C0.1 C0.2.1 dX10_isWritable_130 (by decide) ?_
                        exact ih19 0 x324 _ _ _ (by have q0 := hR.2.1; unfold okN at q0; rw [← show x324 = F 112 (cl p_) from ex324] at q0; rcases q0 with q | q; exact Or.inl q.1; exact Or.inr ⟨⟨by have := q.1; omega, by have := q.1; omega⟩, by have := q.1; omega⟩) g2 hH hS (lv_sub hl [0, 1, 3, 4] rfl)
                      · have : Int32.toInt 4 = 4 := rfl
                        have c323 := congrArg Int32.toInt c323
                        refine lv_iconst (pc := 121) (v := 0) C0.1 C0.2.1 dX10_isWritable_121 (by decide) ?_
                        exact xzret (pc := 122) C0 hr hH hS dX10_isWritable_122 (by decide) ⟨rfl, by decide⟩
                · have : Int32.toInt 0 = 0 := rfl
                  have c316 : ¬ _ := fun q => c316 (Int32.toInt_inj.mp q)
                  refine lv_aload_n (pc := 70) C0.1 C0.2.1 dX10_isWritable_70 rfl (lv_at hl 4 rfl) ?_
                  refine xget (pc := 71) C0 hH 78 37 clX10 ⟨Nat.le_of_ble_eq_true rfl, Nat.le_of_ble_eq_true rfl⟩ ⟨rfl, rfl⟩ (Nat.le_of_ble_eq_true rfl) fl_X10_85 (v := .ref (b + 102)) rfl dX10_isWritable_71 ?_
                  refine lv_bipush (pc := 74) (v := (-100)) C0.1 C0.2.1 dX10_isWritable_74 (by decide) ?_
                  refine lv_iload (pc := 76) C0.1 C0.2.1 dX10_isWritable_76 (lv_at hl 0 rfl) ?_
                  have : Int32.toInt (-100) = (-100) := rfl
                  refine lv_isub (pc := 78) C0.1 C0.2.1 dX10_isWritable_78 ?_
                  refine lv_topi (fun x325 ex325 => ?_)
                  have hx325 : Int32.toInt x325 = Int32.toInt (-100) - Int32.toInt x303 := by rw [ex325]; exact fb_subI (by omega) (by omega)
                  refine xiald (pc := 79) (N := 1202) C0 hH 102 ⟨Nat.le_of_ble_eq_true rfl, Nat.le_of_ble_eq_true rfl⟩ ⟨rfl, rfl⟩ (vI (by omega) (by omega)) dX10_isWritable_79 ?_
                  refine lv_if_ne (pc := 80) (tgt := 87) C0.1 C0.2.1 dX10_isWritable_80 (by decide) (fun c326 => ?_) (fun c326 => ?_)
                  · have : Int32.toInt 0 = 0 := rfl
                    have c326 : ¬ _ := fun q => c326 (Int32.toInt_inj.mp q)
                    refine lv_iconst (pc := 87) (v := 0) C0.1 C0.2.1 dX10_isWritable_87 (by decide) ?_
                    refine lv_istore_n (pc := 88) (lv' := [(2, .int 0), (4, .int x303), (3, .int p_), (1, .int k), (0, .ref (b + 78))]) C0.1 C0.2.1 dX10_isWritable_88 rfl hl (by decide) rfl (fun ls hl => ?_)
                    refine lv_iload (pc := 89) C0.1 C0.2.1 dX10_isWritable_89 (lv_at hl 1 rfl) ?_
                    refine lv_if_ge (pc := 91) (tgt := 123) C0.1 C0.2.1 dX10_isWritable_91 (by decide) (fun c327 => ?_) (fun c327 => ?_)
                    · have : Int32.toInt 0 = 0 := rfl
                      have c327 := Int32.le_iff_toInt_le.mp c327
                      refine lv_aload_n (pc := 123) C0.1 C0.2.1 dX10_isWritable_123 rfl (lv_at hl 4 rfl) ?_
                      refine xget (pc := 124) C0 hH 78 49 clX10 ⟨Nat.le_of_ble_eq_true rfl, Nat.le_of_ble_eq_true rfl⟩ ⟨rfl, rfl⟩ (Nat.le_of_ble_eq_true rfl) fl_X10_115 (v := .ref (b + 112)) rfl dX10_isWritable_124 ?_
                      refine lv_iload_n (pc := 127) C0.1 C0.2.1 dX10_isWritable_127 rfl (lv_at hl 2 rfl) ?_
                      refine xiald (pc := 128) (N := 1802) C0 hH 112 ⟨Nat.le_of_ble_eq_true rfl, Nat.le_of_ble_eq_true rfl⟩ ⟨rfl, rfl⟩ (vI (by omega) (by omega)) dX10_isWritable_128 ?_
                      refine lv_topi (fun x328 ex328 => ?_)
                      refine lv_istore_n (pc := 129) (lv' := [(3, .int x328), (2, .int 0), (4, .int x303), (1, .int k), (0, .ref (b + 78))]) C0.1 C0.2.1 dX10_isWritable_129 rfl hl (by decide) rfl (fun ls hl => ?_)
                      refine lv_goto (pc := 130) (tgt := 19) C0.1 C0.2.1 dX10_isWritable_130 (by decide) ?_
                      exact ih19 0 x328 _ _ _ (by have q0 := hR.2.1; unfold okN at q0; rw [← show x328 = F 112 (cl p_) from ex328] at q0; rcases q0 with q | q; exact Or.inl q.1; exact Or.inr ⟨⟨by have := q.1; omega, by have := q.1; omega⟩, by have := q.1; omega⟩) g2 hH hS (lv_sub hl [0, 1, 3, 4] rfl)
                    · have : Int32.toInt 0 = 0 := rfl
                      have c327 : ¬ _ := fun q => c327 (Int32.le_iff_toInt_le.mpr q)
                      refine lv_aload_n (pc := 94) C0.1 C0.2.1 dX10_isWritable_94 rfl (lv_at hl 4 rfl) ?_
                      refine lv_bipush (pc := 95) (v := (-100)) C0.1 C0.2.1 dX10_isWritable_95 (by decide) ?_
                      refine lv_iload (pc := 97) C0.1 C0.2.1 dX10_isWritable_97 (lv_at hl 1 rfl) ?_
                      have : Int32.toInt (-100) = (-100) := rfl
                      refine lv_isub (pc := 99) C0.1 C0.2.1 dX10_isWritable_99 ?_
                      refine lv_topi (fun x329 ex329 => ?_)
                      have hx329 : Int32.toInt x329 = Int32.toInt (-100) - Int32.toInt x303 := by rw [ex329]; exact fb_subI (by omega) (by omega)
                      refine xcVI (pc := 100) 78 [.int x329] (m_isStanding l D tA b i F G x329 (show 0 ≤ Int32.toInt x329 ∧ Int32.toInt x329 < 1202 from by omega)) C0 hH hS clX10 rfl ⟨⟨Nat.le_of_ble_eq_true rfl, Nat.le_of_ble_eq_true rfl⟩, rfl, rfl⟩ cw_X10_387 rfl ⟨Nat.le_of_ble_eq_true rfl, Nat.le_of_ble_eq_true rfl⟩ hl.1 rfl (Nat.le_of_ble_eq_true rfl) dX10_isWritable_100 ⟨Nat.le_of_ble_eq_true rfl, Nat.le_of_ble_eq_true rfl⟩ (fun r330 ir330 Fr330 Gr330 _ locs hp hH hS => ?_)
                      obtain ⟨hu, h01r330⟩ := hp
                      cases hu
                      refine lv_if_eq (pc := 103) (tgt := 123) C0.1 C0.2.1 dX10_isWritable_103 (by decide) (fun c331 => ?_) (fun c331 => ?_)
                      · have : Int32.toInt 0 = 0 := rfl
                        have c331 := congrArg Int32.toInt c331
                        refine lv_aload_n (pc := 123) C0.1 C0.2.1 dX10_isWritable_123 rfl (lv_at hl 4 rfl) ?_
                        refine xget (pc := 124) C0 hH 78 49 clX10 ⟨Nat.le_of_ble_eq_true rfl, Nat.le_of_ble_eq_true rfl⟩ ⟨rfl, rfl⟩ (Nat.le_of_ble_eq_true rfl) fl_X10_115 (v := .ref (b + 112)) rfl dX10_isWritable_124 ?_
                        refine lv_iload_n (pc := 127) C0.1 C0.2.1 dX10_isWritable_127 rfl (lv_at hl 2 rfl) ?_
                        refine xiald (pc := 128) (N := 1802) C0 hH 112 ⟨Nat.le_of_ble_eq_true rfl, Nat.le_of_ble_eq_true rfl⟩ ⟨rfl, rfl⟩ (vI (by omega) (by omega)) dX10_isWritable_128 ?_
                        refine lv_topi (fun x332 ex332 => ?_)
                        refine lv_istore_n (pc := 129) (lv' := [(3, .int x332), (2, .int 0), (4, .int x303), (1, .int k), (0, .ref (b + 78))]) C0.1 C0.2.1 dX10_isWritable_129 rfl hl (by decide) rfl (fun ls hl => ?_)
                        refine lv_goto (pc := 130) (tgt := 19) C0.1 C0.2.1 dX10_isWritable_130 (by decide) ?_
                        exact ih19 0 x332 _ _ _ (by have q0 := hR.2.1; unfold okN at q0; rw [← show x332 = F 112 (cl p_) from ex332] at q0; rcases q0 with q | q; exact Or.inl q.1; exact Or.inr ⟨⟨by have := q.1; omega, by have := q.1; omega⟩, by have := q.1; omega⟩) g2 hH hS (lv_sub hl [0, 1, 3, 4] rfl)
                      · have : Int32.toInt 0 = 0 := rfl
                        have c331 : ¬ _ := fun q => c331 (Int32.toInt_inj.mp q)
                        refine lv_aload_n (pc := 106) C0.1 C0.2.1 dX10_isWritable_106 rfl (lv_at hl 4 rfl) ?_
                        refine xget (pc := 107) C0 hH 78 33 clX10 ⟨Nat.le_of_ble_eq_true rfl, Nat.le_of_ble_eq_true rfl⟩ ⟨rfl, rfl⟩ (Nat.le_of_ble_eq_true rfl) fl_X10_73 (v := .ref (b + 98)) rfl dX10_isWritable_107 ?_
                        refine lv_aload_n (pc := 110) C0.1 C0.2.1 dX10_isWritable_110 rfl (lv_at hl 4 rfl) ?_
                        refine xget (pc := 111) C0 hH 78 41 clX10 ⟨Nat.le_of_ble_eq_true rfl, Nat.le_of_ble_eq_true rfl⟩ ⟨rfl, rfl⟩ (Nat.le_of_ble_eq_true rfl) fl_X10_94 (v := .ref (b + 105)) rfl dX10_isWritable_111 ?_
                        refine lv_iload_n (pc := 114) C0.1 C0.2.1 dX10_isWritable_114 rfl (lv_at hl 3 rfl) ?_
                        refine xiald (pc := 115) (N := 1202) C0 hH 105 ⟨Nat.le_of_ble_eq_true rfl, Nat.le_of_ble_eq_true rfl⟩ ⟨rfl, rfl⟩ (vI (by omega) (by omega)) dX10_isWritable_115 ?_
                        refine xiald (pc := 116) (N := 1202) C0 hH 98 ⟨Nat.le_of_ble_eq_true rfl, Nat.le_of_ble_eq_true rfl⟩ ⟨rfl, rfl⟩ (vI (hWA.ib _).1 (hWA.ib _).2) dX10_isWritable_116 ?_
                        refine lv_iconst (pc := 117) (v := 4) C0.1 C0.2.1 dX10_isWritable_117 (by decide) ?_
                        refine lv_icmp_ne (pc := 118) (tgt := 123) C0.1 C0.2.1 dX10_isWritable_118 (by decide) (fun c333 => ?_) (fun c333 => ?_)
                        · have : Int32.toInt 4 = 4 := rfl
                          have c333 : ¬ _ := fun q => c333 (Int32.toInt_inj.mp q)
                          refine lv_aload_n (pc := 123) C0.1 C0.2.1 dX10_isWritable_123 rfl (lv_at hl 4 rfl) ?_
                          refine xget (pc := 124) C0 hH 78 49 clX10 ⟨Nat.le_of_ble_eq_true rfl, Nat.le_of_ble_eq_true rfl⟩ ⟨rfl, rfl⟩ (Nat.le_of_ble_eq_true rfl) fl_X10_115 (v := .ref (b + 112)) rfl dX10_isWritable_124 ?_
                          refine lv_iload_n (pc := 127) C0.1 C0.2.1 dX10_isWritable_127 rfl (lv_at hl 2 rfl) ?_
                          refine xiald (pc := 128) (N := 1802) C0 hH 112 ⟨Nat.le_of_ble_eq_true rfl, Nat.le_of_ble_eq_true rfl⟩ ⟨rfl, rfl⟩ (vI (by omega) (by omega)) dX10_isWritable_128 ?_
                          refine lv_topi (fun x334 ex334 => ?_)
                          refine lv_istore_n (pc := 129) (lv' := [(3, .int x334), (2, .int 0), (4, .int x303), (1, .int k), (0, .ref (b + 78))]) C0.1 C0.2.1 dX10_isWritable_129 rfl hl (by decide) rfl (fun ls hl => ?_)
                          refine lv_goto (pc := 130) (tgt := 19) C0.1 C0.2.1 dX10_isWritable_130 (by decide) ?_
                          exact ih19 0 x334 _ _ _ (by have q0 := hR.2.1; unfold okN at q0; rw [← show x334 = F 112 (cl p_) from ex334] at q0; rcases q0 with q | q; exact Or.inl q.1; exact Or.inr ⟨⟨by have := q.1; omega, by have := q.1; omega⟩, by have := q.1; omega⟩) g2 hH hS (lv_sub hl [0, 1, 3, 4] rfl)
                        · have : Int32.toInt 4 = 4 := rfl
                          have c333 := congrArg Int32.toInt c333
                          refine lv_iconst (pc := 121) (v := 0) C0.1 C0.2.1 dX10_isWritable_121 (by decide) ?_
                          exact xzret (pc := 122) C0 hr hH hS dX10_isWritable_122 (by decide) ⟨rfl, by decide⟩
                  · have : Int32.toInt 0 = 0 := rfl
                    have c326 := congrArg Int32.toInt c326
                    refine lv_iconst (pc := 83) (v := 1) C0.1 C0.2.1 dX10_isWritable_83 (by decide) ?_
                    refine lv_goto (pc := 84) (tgt := 88) C0.1 C0.2.1 dX10_isWritable_84 (by decide) ?_
                    refine lv_istore_n (pc := 88) (lv' := [(2, .int 1), (4, .int x303), (3, .int p_), (1, .int k), (0, .ref (b + 78))]) C0.1 C0.2.1 dX10_isWritable_88 rfl hl (by decide) rfl (fun ls hl => ?_)
                    refine lv_iload (pc := 89) C0.1 C0.2.1 dX10_isWritable_89 (lv_at hl 1 rfl) ?_
                    refine lv_if_ge (pc := 91) (tgt := 123) C0.1 C0.2.1 dX10_isWritable_91 (by decide) (fun c335 => ?_) (fun c335 => ?_)
                    · have : Int32.toInt 0 = 0 := rfl
                      have c335 := Int32.le_iff_toInt_le.mp c335
                      refine lv_aload_n (pc := 123) C0.1 C0.2.1 dX10_isWritable_123 rfl (lv_at hl 4 rfl) ?_
                      refine xget (pc := 124) C0 hH 78 49 clX10 ⟨Nat.le_of_ble_eq_true rfl, Nat.le_of_ble_eq_true rfl⟩ ⟨rfl, rfl⟩ (Nat.le_of_ble_eq_true rfl) fl_X10_115 (v := .ref (b + 112)) rfl dX10_isWritable_124 ?_
                      refine lv_iload_n (pc := 127) C0.1 C0.2.1 dX10_isWritable_127 rfl (lv_at hl 2 rfl) ?_
                      refine xiald (pc := 128) (N := 1802) C0 hH 112 ⟨Nat.le_of_ble_eq_true rfl, Nat.le_of_ble_eq_true rfl⟩ ⟨rfl, rfl⟩ (vI (by omega) (by omega)) dX10_isWritable_128 ?_
                      refine lv_topi (fun x336 ex336 => ?_)
                      refine lv_istore_n (pc := 129) (lv' := [(3, .int x336), (2, .int 1), (4, .int x303), (1, .int k), (0, .ref (b + 78))]) C0.1 C0.2.1 dX10_isWritable_129 rfl hl (by decide) rfl (fun ls hl => ?_)
                      refine lv_goto (pc := 130) (tgt := 19) C0.1 C0.2.1 dX10_isWritable_130 (by decide) ?_
                      exact ih19 1 x336 _ _ _ (by have q0 := hR.2.1; unfold okN at q0; rw [← show x336 = F 112 (cl p_) from ex336] at q0; rcases q0 with q | q; exact Or.inl q.1; exact Or.inr ⟨⟨by have := q.1; omega, by have := q.1; omega⟩, by have := q.1; omega⟩) g2 hH hS (lv_sub hl [0, 1, 3, 4] rfl)
                    · have : Int32.toInt 0 = 0 := rfl
                      have c335 : ¬ _ := fun q => c335 (Int32.le_iff_toInt_le.mpr q)
                      refine lv_aload_n (pc := 94) C0.1 C0.2.1 dX10_isWritable_94 rfl (lv_at hl 4 rfl) ?_
                      refine lv_bipush (pc := 95) (v := (-100)) C0.1 C0.2.1 dX10_isWritable_95 (by decide) ?_
                      refine lv_iload (pc := 97) C0.1 C0.2.1 dX10_isWritable_97 (lv_at hl 1 rfl) ?_
                      have : Int32.toInt (-100) = (-100) := rfl
                      refine lv_isub (pc := 99) C0.1 C0.2.1 dX10_isWritable_99 ?_
                      refine lv_topi (fun x337 ex337 => ?_)
                      have hx337 : Int32.toInt x337 = Int32.toInt (-100) - Int32.toInt x303 := by rw [ex337]; exact fb_subI (by omega) (by omega)
                      refine xcVI (pc := 100) 78 [.int x337] (m_isStanding l D tA b i F G x337 (show 0 ≤ Int32.toInt x337 ∧ Int32.toInt x337 < 1202 from by omega)) C0 hH hS clX10 rfl ⟨⟨Nat.le_of_ble_eq_true rfl, Nat.le_of_ble_eq_true rfl⟩, rfl, rfl⟩ cw_X10_387 rfl ⟨Nat.le_of_ble_eq_true rfl, Nat.le_of_ble_eq_true rfl⟩ hl.1 rfl (Nat.le_of_ble_eq_true rfl) dX10_isWritable_100 ⟨Nat.le_of_ble_eq_true rfl, Nat.le_of_ble_eq_true rfl⟩ (fun r338 ir338 Fr338 Gr338 _ locs hp hH hS => ?_)
                      obtain ⟨hu, h01r338⟩ := hp
                      cases hu
                      refine lv_if_eq (pc := 103) (tgt := 123) C0.1 C0.2.1 dX10_isWritable_103 (by decide) (fun c339 => ?_) (fun c339 => ?_)
                      · have : Int32.toInt 0 = 0 := rfl
                        have c339 := congrArg Int32.toInt c339
                        refine lv_aload_n (pc := 123) C0.1 C0.2.1 dX10_isWritable_123 rfl (lv_at hl 4 rfl) ?_
                        refine xget (pc := 124) C0 hH 78 49 clX10 ⟨Nat.le_of_ble_eq_true rfl, Nat.le_of_ble_eq_true rfl⟩ ⟨rfl, rfl⟩ (Nat.le_of_ble_eq_true rfl) fl_X10_115 (v := .ref (b + 112)) rfl dX10_isWritable_124 ?_
                        refine lv_iload_n (pc := 127) C0.1 C0.2.1 dX10_isWritable_127 rfl (lv_at hl 2 rfl) ?_
                        refine xiald (pc := 128) (N := 1802) C0 hH 112 ⟨Nat.le_of_ble_eq_true rfl, Nat.le_of_ble_eq_true rfl⟩ ⟨rfl, rfl⟩ (vI (by omega) (by omega)) dX10_isWritable_128 ?_
                        refine lv_topi (fun x340 ex340 => ?_)
                        refine lv_istore_n (pc := 129) (lv' := [(3, .int x340), (2, .int 1), (4, .int x303), (1, .int k), (0, .ref (b + 78))]) C0.1 C0.2.1 dX10_isWritable_129 rfl hl (by decide) rfl (fun ls hl => ?_)
                        refine lv_goto (pc := 130) (tgt := 19) C0.1 C0.2.1 dX10_isWritable_130 (by decide) ?_
                        exact ih19 1 x340 _ _ _ (by have q0 := hR.2.1; unfold okN at q0; rw [← show x340 = F 112 (cl p_) from ex340] at q0; rcases q0 with q | q; exact Or.inl q.1; exact Or.inr ⟨⟨by have := q.1; omega, by have := q.1; omega⟩, by have := q.1; omega⟩) g2 hH hS (lv_sub hl [0, 1, 3, 4] rfl)
                      · have : Int32.toInt 0 = 0 := rfl
                        have c339 : ¬ _ := fun q => c339 (Int32.toInt_inj.mp q)
                        refine lv_aload_n (pc := 106) C0.1 C0.2.1 dX10_isWritable_106 rfl (lv_at hl 4 rfl) ?_
                        refine xget (pc := 107) C0 hH 78 33 clX10 ⟨Nat.le_of_ble_eq_true rfl, Nat.le_of_ble_eq_true rfl⟩ ⟨rfl, rfl⟩ (Nat.le_of_ble_eq_true rfl) fl_X10_73 (v := .ref (b + 98)) rfl dX10_isWritable_107 ?_
                        refine lv_aload_n (pc := 110) C0.1 C0.2.1 dX10_isWritable_110 rfl (lv_at hl 4 rfl) ?_
                        refine xget (pc := 111) C0 hH 78 41 clX10 ⟨Nat.le_of_ble_eq_true rfl, Nat.le_of_ble_eq_true rfl⟩ ⟨rfl, rfl⟩ (Nat.le_of_ble_eq_true rfl) fl_X10_94 (v := .ref (b + 105)) rfl dX10_isWritable_111 ?_
                        refine lv_iload_n (pc := 114) C0.1 C0.2.1 dX10_isWritable_114 rfl (lv_at hl 3 rfl) ?_
                        refine xiald (pc := 115) (N := 1202) C0 hH 105 ⟨Nat.le_of_ble_eq_true rfl, Nat.le_of_ble_eq_true rfl⟩ ⟨rfl, rfl⟩ (vI (by omega) (by omega)) dX10_isWritable_115 ?_
                        refine xiald (pc := 116) (N := 1202) C0 hH 98 ⟨Nat.le_of_ble_eq_true rfl, Nat.le_of_ble_eq_true rfl⟩ ⟨rfl, rfl⟩ (vI (hWA.ib _).1 (hWA.ib _).2) dX10_isWritable_116 ?_
                        refine lv_iconst (pc := 117) (v := 4) C0.1 C0.2.1 dX10_isWritable_117 (by decide) ?_
                        refine lv_icmp_ne (pc := 118) (tgt := 123) C0.1 C0.2.1 dX10_isWritable_118 (by decide) (fun c341 => ?_) (fun c341 => ?_)
                        · have : Int32.toInt 4 = 4 := rfl
                          have c341 : ¬ _ := fun q => c341 (Int32.toInt_inj.mp q)
                          refine lv_aload_n (pc := 123) C0.1 C0.2.1 dX10_isWritable_123 rfl (lv_at hl 4 rfl) ?_
                          refine xget (pc := 124) C0 hH 78 49 clX10 ⟨Nat.le_of_ble_eq_true rfl, Nat.le_of_ble_eq_true rfl⟩ ⟨rfl, rfl⟩ (Nat.le_of_ble_eq_true rfl) fl_X10_115 (v := .ref (b + 112)) rfl dX10_isWritable_124 ?_
                          refine lv_iload_n (pc := 127) C0.1 C0.2.1 dX10_isWritable_127 rfl (lv_at hl 2 rfl) ?_
                          refine xiald (pc := 128) (N := 1802) C0 hH 112 ⟨Nat.le_of_ble_eq_true rfl, Nat.le_of_ble_eq_true rfl⟩ ⟨rfl, rfl⟩ (vI (by omega) (by omega)) dX10_isWritable_128 ?_
                          refine lv_topi (fun x342 ex342 => ?_)
                          refine lv_istore_n (pc := 129) (lv' := [(3, .int x342), (2, .int 1), (4, .int x303), (1, .int k), (0, .ref (b + 78))]) C0.1 C0.2.1 dX10_isWritable_129 rfl hl (by decide) rfl (fun ls hl => ?_)
                          refine lv_goto (pc := 130) (tgt := 19) C0.1 C0.2.1 dX10_isWritable_130 (by decide) ?_
                          exact ih19 1 x342 _ _ _ (by have q0 := hR.2.1; unfold okN at q0; rw [← show x342 = F 112 (cl p_) from ex342] at q0; rcases q0 with q | q; exact Or.inl q.1; exact Or.inr ⟨⟨by have := q.1; omega, by have := q.1; omega⟩, by have := q.1; omega⟩) g2 hH hS (lv_sub hl [0, 1, 3, 4] rfl)
                        · have : Int32.toInt 4 = 4 := rfl
                          have c341 := congrArg Int32.toInt c341
                          refine lv_iconst (pc := 121) (v := 0) C0.1 C0.2.1 dX10_isWritable_121 (by decide) ?_
                          exact xzret (pc := 122) C0 hr hH hS dX10_isWritable_122 (by decide) ⟨rfl, by decide⟩
            · have : Int32.toInt 0 = 0 := rfl
              have c304 : ¬ _ := fun q => c304 (Int32.lt_iff_toInt_lt.mpr q)
              refine lv_iload_n (pc := 38) C0.1 C0.2.1 dX10_isWritable_38 rfl (lv_at hl 2 rfl) ?_
              refine lv_if_eq (pc := 39) (tgt := 53) C0.1 C0.2.1 dX10_isWritable_39 (by decide) (fun c343 => ?_) (fun c343 => ?_)
              · have : Int32.toInt 0 = 0 := rfl
                have c343 := congrArg Int32.toInt c343
                refine lv_iload (pc := 53) C0.1 C0.2.1 dX10_isWritable_53 (lv_at hl 0 rfl) ?_
                refine lv_if_ge (pc := 55) (tgt := 87) C0.1 C0.2.1 dX10_isWritable_55 (by decide) (fun c344 => ?_) (fun c344 => ?_)
                · have : Int32.toInt 0 = 0 := rfl
                  have c344 := Int32.le_iff_toInt_le.mp c344
                  refine lv_iconst (pc := 87) (v := 0) C0.1 C0.2.1 dX10_isWritable_87 (by decide) ?_
                  refine lv_istore_n (pc := 88) (lv' := [(2, .int 0), (4, .int x303), (3, .int p_), (1, .int k), (0, .ref (b + 78))]) C0.1 C0.2.1 dX10_isWritable_88 rfl hl (by decide) rfl (fun ls hl => ?_)
                  refine lv_iload (pc := 89) C0.1 C0.2.1 dX10_isWritable_89 (lv_at hl 1 rfl) ?_
                  refine lv_if_ge (pc := 91) (tgt := 123) C0.1 C0.2.1 dX10_isWritable_91 (by decide) (fun c345 => ?_) (fun c345 => ?_)
                  · have : Int32.toInt 0 = 0 := rfl
                    have c345 := Int32.le_iff_toInt_le.mp c345
                    refine lv_aload_n (pc := 123) C0.1 C0.2.1 dX10_isWritable_123 rfl (lv_at hl 4 rfl) ?_
                    refine xget (pc := 124) C0 hH 78 49 clX10 ⟨Nat.le_of_ble_eq_true rfl, Nat.le_of_ble_eq_true rfl⟩ ⟨rfl, rfl⟩ (Nat.le_of_ble_eq_true rfl) fl_X10_115 (v := .ref (b + 112)) rfl dX10_isWritable_124 ?_
                    refine lv_iload_n (pc := 127) C0.1 C0.2.1 dX10_isWritable_127 rfl (lv_at hl 2 rfl) ?_
                    refine xiald (pc := 128) (N := 1802) C0 hH 112 ⟨Nat.le_of_ble_eq_true rfl, Nat.le_of_ble_eq_true rfl⟩ ⟨rfl, rfl⟩ (vI (by omega) (by omega)) dX10_isWritable_128 ?_
                    refine lv_topi (fun x346 ex346 => ?_)
                    refine lv_istore_n (pc := 129) (lv' := [(3, .int x346), (2, .int 0), (4, .int x303), (1, .int k), (0, .ref (b + 78))]) C0.1 C0.2.1 dX10_isWritable_129 rfl hl (by decide) rfl (fun ls hl => ?_)
                    refine lv_goto (pc := 130) (tgt := 19) C0.1 C0.2.1 dX10_isWritable_130 (by decide) ?_
                    exact ih19 0 x346 _ _ _ (by have q0 := hR.2.1; unfold okN at q0; rw [← show x346 = F 112 (cl p_) from ex346] at q0; rcases q0 with q | q; exact Or.inl q.1; exact Or.inr ⟨⟨by have := q.1; omega, by have := q.1; omega⟩, by have := q.1; omega⟩) g2 hH hS (lv_sub hl [0, 1, 3, 4] rfl)
                  · have : Int32.toInt 0 = 0 := rfl
                    have c345 : ¬ _ := fun q => c345 (Int32.le_iff_toInt_le.mpr q)
                    refine lv_aload_n (pc := 94) C0.1 C0.2.1 dX10_isWritable_94 rfl (lv_at hl 4 rfl) ?_
                    refine lv_bipush (pc := 95) (v := (-100)) C0.1 C0.2.1 dX10_isWritable_95 (by decide) ?_
                    refine lv_iload (pc := 97) C0.1 C0.2.1 dX10_isWritable_97 (lv_at hl 1 rfl) ?_
                    have : Int32.toInt (-100) = (-100) := rfl
                    refine lv_isub (pc := 99) C0.1 C0.2.1 dX10_isWritable_99 ?_
                    refine lv_topi (fun x347 ex347 => ?_)
                    have hx347 : Int32.toInt x347 = Int32.toInt (-100) - Int32.toInt x303 := by rw [ex347]; exact fb_subI (by omega) (by omega)
                    refine xcVI (pc := 100) 78 [.int x347] (m_isStanding l D tA b i F G x347 (show 0 ≤ Int32.toInt x347 ∧ Int32.toInt x347 < 1202 from by omega)) C0 hH hS clX10 rfl ⟨⟨Nat.le_of_ble_eq_true rfl, Nat.le_of_ble_eq_true rfl⟩, rfl, rfl⟩ cw_X10_387 rfl ⟨Nat.le_of_ble_eq_true rfl, Nat.le_of_ble_eq_true rfl⟩ hl.1 rfl (Nat.le_of_ble_eq_true rfl) dX10_isWritable_100 ⟨Nat.le_of_ble_eq_true rfl, Nat.le_of_ble_eq_true rfl⟩ (fun r348 ir348 Fr348 Gr348 _ locs hp hH hS => ?_)
                    obtain ⟨hu, h01r348⟩ := hp
                    cases hu
                    refine lv_if_eq (pc := 103) (tgt := 123) C0.1 C0.2.1 dX10_isWritable_103 (by decide) (fun c349 => ?_) (fun c349 => ?_)
                    · have : Int32.toInt 0 = 0 := rfl
                      have c349 := congrArg Int32.toInt c349
                      refine lv_aload_n (pc := 123) C0.1 C0.2.1 dX10_isWritable_123 rfl (lv_at hl 4 rfl) ?_
                      refine xget (pc := 124) C0 hH 78 49 clX10 ⟨Nat.le_of_ble_eq_true rfl, Nat.le_of_ble_eq_true rfl⟩ ⟨rfl, rfl⟩ (Nat.le_of_ble_eq_true rfl) fl_X10_115 (v := .ref (b + 112)) rfl dX10_isWritable_124 ?_
                      refine lv_iload_n (pc := 127) C0.1 C0.2.1 dX10_isWritable_127 rfl (lv_at hl 2 rfl) ?_
                      refine xiald (pc := 128) (N := 1802) C0 hH 112 ⟨Nat.le_of_ble_eq_true rfl, Nat.le_of_ble_eq_true rfl⟩ ⟨rfl, rfl⟩ (vI (by omega) (by omega)) dX10_isWritable_128 ?_
                      refine lv_topi (fun x350 ex350 => ?_)
                      refine lv_istore_n (pc := 129) (lv' := [(3, .int x350), (2, .int 0), (4, .int x303), (1, .int k), (0, .ref (b + 78))]) C0.1 C0.2.1 dX10_isWritable_129 rfl hl (by decide) rfl (fun ls hl => ?_)
                      refine lv_goto (pc := 130) (tgt := 19) C0.1 C0.2.1 dX10_isWritable_130 (by decide) ?_
                      exact ih19 0 x350 _ _ _ (by have q0 := hR.2.1; unfold okN at q0; rw [← show x350 = F 112 (cl p_) from ex350] at q0; rcases q0 with q | q; exact Or.inl q.1; exact Or.inr ⟨⟨by have := q.1; omega, by have := q.1; omega⟩, by have := q.1; omega⟩) g2 hH hS (lv_sub hl [0, 1, 3, 4] rfl)
                    · have : Int32.toInt 0 = 0 := rfl
                      have c349 : ¬ _ := fun q => c349 (Int32.toInt_inj.mp q)
                      refine lv_aload_n (pc := 106) C0.1 C0.2.1 dX10_isWritable_106 rfl (lv_at hl 4 rfl) ?_
                      refine xget (pc := 107) C0 hH 78 33 clX10 ⟨Nat.le_of_ble_eq_true rfl, Nat.le_of_ble_eq_true rfl⟩ ⟨rfl, rfl⟩ (Nat.le_of_ble_eq_true rfl) fl_X10_73 (v := .ref (b + 98)) rfl dX10_isWritable_107 ?_
                      refine lv_aload_n (pc := 110) C0.1 C0.2.1 dX10_isWritable_110 rfl (lv_at hl 4 rfl) ?_
                      refine xget (pc := 111) C0 hH 78 41 clX10 ⟨Nat.le_of_ble_eq_true rfl, Nat.le_of_ble_eq_true rfl⟩ ⟨rfl, rfl⟩ (Nat.le_of_ble_eq_true rfl) fl_X10_94 (v := .ref (b + 105)) rfl dX10_isWritable_111 ?_
                      refine lv_iload_n (pc := 114) C0.1 C0.2.1 dX10_isWritable_114 rfl (lv_at hl 3 rfl) ?_
                      refine xiald (pc := 115) (N := 1202) C0 hH 105 ⟨Nat.le_of_ble_eq_true rfl, Nat.le_of_ble_eq_true rfl⟩ ⟨rfl, rfl⟩ (vI (by omega) (by omega)) dX10_isWritable_115 ?_
                      refine xiald (pc := 116) (N := 1202) C0 hH 98 ⟨Nat.le_of_ble_eq_true rfl, Nat.le_of_ble_eq_true rfl⟩ ⟨rfl, rfl⟩ (vI (hWA.ib _).1 (hWA.ib _).2) dX10_isWritable_116 ?_
                      refine lv_iconst (pc := 117) (v := 4) C0.1 C0.2.1 dX10_isWritable_117 (by decide) ?_
                      refine lv_icmp_ne (pc := 118) (tgt := 123) C0.1 C0.2.1 dX10_isWritable_118 (by decide) (fun c351 => ?_) (fun c351 => ?_)
                      · have : Int32.toInt 4 = 4 := rfl
                        have c351 : ¬ _ := fun q => c351 (Int32.toInt_inj.mp q)
                        refine lv_aload_n (pc := 123) C0.1 C0.2.1 dX10_isWritable_123 rfl (lv_at hl 4 rfl) ?_
                        refine xget (pc := 124) C0 hH 78 49 clX10 ⟨Nat.le_of_ble_eq_true rfl, Nat.le_of_ble_eq_true rfl⟩ ⟨rfl, rfl⟩ (Nat.le_of_ble_eq_true rfl) fl_X10_115 (v := .ref (b + 112)) rfl dX10_isWritable_124 ?_
                        refine lv_iload_n (pc := 127) C0.1 C0.2.1 dX10_isWritable_127 rfl (lv_at hl 2 rfl) ?_
                        refine xiald (pc := 128) (N := 1802) C0 hH 112 ⟨Nat.le_of_ble_eq_true rfl, Nat.le_of_ble_eq_true rfl⟩ ⟨rfl, rfl⟩ (vI (by omega) (by omega)) dX10_isWritable_128 ?_
                        refine lv_topi (fun x352 ex352 => ?_)
                        refine lv_istore_n (pc := 129) (lv' := [(3, .int x352), (2, .int 0), (4, .int x303), (1, .int k), (0, .ref (b + 78))]) C0.1 C0.2.1 dX10_isWritable_129 rfl hl (by decide) rfl (fun ls hl => ?_)
                        refine lv_goto (pc := 130) (tgt := 19) C0.1 C0.2.1 dX10_isWritable_130 (by decide) ?_
                        exact ih19 0 x352 _ _ _ (by have q0 := hR.2.1; unfold okN at q0; rw [← show x352 = F 112 (cl p_) from ex352] at q0; rcases q0 with q | q; exact Or.inl q.1; exact Or.inr ⟨⟨by have := q.1; omega, by have := q.1; omega⟩, by have := q.1; omega⟩) g2 hH hS (lv_sub hl [0, 1, 3, 4] rfl)
                      · have : Int32.toInt 4 = 4 := rfl
                        have c351 := congrArg Int32.toInt c351
                        refine lv_iconst (pc := 121) (v := 0) C0.1 C0.2.1 dX10_isWritable_121 (by decide) ?_
                        exact xzret (pc := 122) C0 hr hH hS dX10_isWritable_122 (by decide) ⟨rfl, by decide⟩
                · have : Int32.toInt 0 = 0 := rfl
                  have c344 : ¬ _ := fun q => c344 (Int32.le_iff_toInt_le.mpr q)
                  refine lv_aload_n (pc := 58) C0.1 C0.2.1 dX10_isWritable_58 rfl (lv_at hl 4 rfl) ?_
                  refine lv_bipush (pc := 59) (v := (-100)) C0.1 C0.2.1 dX10_isWritable_59 (by decide) ?_
                  refine lv_iload (pc := 61) C0.1 C0.2.1 dX10_isWritable_61 (lv_at hl 0 rfl) ?_
                  have : Int32.toInt (-100) = (-100) := rfl
                  refine lv_isub (pc := 63) C0.1 C0.2.1 dX10_isWritable_63 ?_
                  refine lv_topi (fun x353 ex353 => ?_)
                  have hx353 : Int32.toInt x353 = Int32.toInt (-100) - Int32.toInt x303 := by rw [ex353]; exact fb_subI (by omega) (by omega)
                  refine xcVI (pc := 64) 78 [.int x353] (m_isStanding l D tA b i F G x353 (show 0 ≤ Int32.toInt x353 ∧ Int32.toInt x353 < 1202 from by omega)) C0 hH hS clX10 rfl ⟨⟨Nat.le_of_ble_eq_true rfl, Nat.le_of_ble_eq_true rfl⟩, rfl, rfl⟩ cw_X10_387 rfl ⟨Nat.le_of_ble_eq_true rfl, Nat.le_of_ble_eq_true rfl⟩ hl.1 rfl (Nat.le_of_ble_eq_true rfl) dX10_isWritable_64 ⟨Nat.le_of_ble_eq_true rfl, Nat.le_of_ble_eq_true rfl⟩ (fun r354 ir354 Fr354 Gr354 _ locs hp hH hS => ?_)
                  obtain ⟨hu, h01r354⟩ := hp
                  cases hu
                  refine lv_if_eq (pc := 67) (tgt := 87) C0.1 C0.2.1 dX10_isWritable_67 (by decide) (fun c355 => ?_) (fun c355 => ?_)
                  · have : Int32.toInt 0 = 0 := rfl
                    have c355 := congrArg Int32.toInt c355
                    refine lv_iconst (pc := 87) (v := 0) C0.1 C0.2.1 dX10_isWritable_87 (by decide) ?_
                    refine lv_istore_n (pc := 88) (lv' := [(2, .int 0), (4, .int x303), (3, .int p_), (1, .int k), (0, .ref (b + 78))]) C0.1 C0.2.1 dX10_isWritable_88 rfl hl (by decide) rfl (fun ls hl => ?_)
                    refine lv_iload (pc := 89) C0.1 C0.2.1 dX10_isWritable_89 (lv_at hl 1 rfl) ?_
                    refine lv_if_ge (pc := 91) (tgt := 123) C0.1 C0.2.1 dX10_isWritable_91 (by decide) (fun c356 => ?_) (fun c356 => ?_)
                    · have : Int32.toInt 0 = 0 := rfl
                      have c356 := Int32.le_iff_toInt_le.mp c356
                      refine lv_aload_n (pc := 123) C0.1 C0.2.1 dX10_isWritable_123 rfl (lv_at hl 4 rfl) ?_
                      refine xget (pc := 124) C0 hH 78 49 clX10 ⟨Nat.le_of_ble_eq_true rfl, Nat.le_of_ble_eq_true rfl⟩ ⟨rfl, rfl⟩ (Nat.le_of_ble_eq_true rfl) fl_X10_115 (v := .ref (b + 112)) rfl dX10_isWritable_124 ?_
                      refine lv_iload_n (pc := 127) C0.1 C0.2.1 dX10_isWritable_127 rfl (lv_at hl 2 rfl) ?_
                      refine xiald (pc := 128) (N := 1802) C0 hH 112 ⟨Nat.le_of_ble_eq_true rfl, Nat.le_of_ble_eq_true rfl⟩ ⟨rfl, rfl⟩ (vI (by omega) (by omega)) dX10_isWritable_128 ?_
                      refine lv_topi (fun x357 ex357 => ?_)
                      refine lv_istore_n (pc := 129) (lv' := [(3, .int x357), (2, .int 0), (4, .int x303), (1, .int k), (0, .ref (b + 78))]) C0.1 C0.2.1 dX10_isWritable_129 rfl hl (by decide) rfl (fun ls hl => ?_)
                      refine lv_goto (pc := 130) (tgt := 19) C0.1 C0.2.1 dX10_isWritable_130 (by decide) ?_
                      exact ih19 0 x357 _ _ _ (by have q0 := hR.2.1; unfold okN at q0; rw [← show x357 = F 112 (cl p_) from ex357] at q0; rcases q0 with q | q; exact Or.inl q.1; exact Or.inr ⟨⟨by have := q.1; omega, by have := q.1; omega⟩, by have := q.1; omega⟩) g2 hH hS (lv_sub hl [0, 1, 3, 4] rfl)
                    · have : Int32.toInt 0 = 0 := rfl
                      have c356 : ¬ _ := fun q => c356 (Int32.le_iff_toInt_le.mpr q)
                      refine lv_aload_n (pc := 94) C0.1 C0.2.1 dX10_isWritable_94 rfl (lv_at hl 4 rfl) ?_
                      refine lv_bipush (pc := 95) (v := (-100)) C0.1 C0.2.1 dX10_isWritable_95 (by decide) ?_
                      refine lv_iload (pc := 97) C0.1 C0.2.1 dX10_isWritable_97 (lv_at hl 1 rfl) ?_
                      have : Int32.toInt (-100) = (-100) := rfl
                      refine lv_isub (pc := 99) C0.1 C0.2.1 dX10_isWritable_99 ?_
                      refine lv_topi (fun x358 ex358 => ?_)
                      have hx358 : Int32.toInt x358 = Int32.toInt (-100) - Int32.toInt x303 := by rw [ex358]; exact fb_subI (by omega) (by omega)
                      refine xcVI (pc := 100) 78 [.int x358] (m_isStanding l D tA b i F G x358 (show 0 ≤ Int32.toInt x358 ∧ Int32.toInt x358 < 1202 from by omega)) C0 hH hS clX10 rfl ⟨⟨Nat.le_of_ble_eq_true rfl, Nat.le_of_ble_eq_true rfl⟩, rfl, rfl⟩ cw_X10_387 rfl ⟨Nat.le_of_ble_eq_true rfl, Nat.le_of_ble_eq_true rfl⟩ hl.1 rfl (Nat.le_of_ble_eq_true rfl) dX10_isWritable_100 ⟨Nat.le_of_ble_eq_true rfl, Nat.le_of_ble_eq_true rfl⟩ (fun r359 ir359 Fr359 Gr359 _ locs hp hH hS => ?_)
                      obtain ⟨hu, h01r359⟩ := hp
                      cases hu
                      refine lv_if_eq (pc := 103) (tgt := 123) C0.1 C0.2.1 dX10_isWritable_103 (by decide) (fun c360 => ?_) (fun c360 => ?_)
                      · have : Int32.toInt 0 = 0 := rfl
                        have c360 := congrArg Int32.toInt c360
                        refine lv_aload_n (pc := 123) C0.1 C0.2.1 dX10_isWritable_123 rfl (lv_at hl 4 rfl) ?_
                        refine xget (pc := 124) C0 hH 78 49 clX10 ⟨Nat.le_of_ble_eq_true rfl, Nat.le_of_ble_eq_true rfl⟩ ⟨rfl, rfl⟩ (Nat.le_of_ble_eq_true rfl) fl_X10_115 (v := .ref (b + 112)) rfl dX10_isWritable_124 ?_
                        refine lv_iload_n (pc := 127) C0.1 C0.2.1 dX10_isWritable_127 rfl (lv_at hl 2 rfl) ?_
                        refine xiald (pc := 128) (N := 1802) C0 hH 112 ⟨Nat.le_of_ble_eq_true rfl, Nat.le_of_ble_eq_true rfl⟩ ⟨rfl, rfl⟩ (vI (by omega) (by omega)) dX10_isWritable_128 ?_
                        refine lv_topi (fun x361 ex361 => ?_)
                        refine lv_istore_n (pc := 129) (lv' := [(3, .int x361), (2, .int 0), (4, .int x303), (1, .int k), (0, .ref (b + 78))]) C0.1 C0.2.1 dX10_isWritable_129 rfl hl (by decide) rfl (fun ls hl => ?_)
                        refine lv_goto (pc := 130) (tgt := 19) C0.1 C0.2.1 dX10_isWritable_130 (by decide) ?_
                        exact ih19 0 x361 _ _ _ (by have q0 := hR.2.1; unfold okN at q0; rw [← show x361 = F 112 (cl p_) from ex361] at q0; rcases q0 with q | q; exact Or.inl q.1; exact Or.inr ⟨⟨by have := q.1; omega, by have := q.1; omega⟩, by have := q.1; omega⟩) g2 hH hS (lv_sub hl [0, 1, 3, 4] rfl)
                      · have : Int32.toInt 0 = 0 := rfl
                        have c360 : ¬ _ := fun q => c360 (Int32.toInt_inj.mp q)
                        refine lv_aload_n (pc := 106) C0.1 C0.2.1 dX10_isWritable_106 rfl (lv_at hl 4 rfl) ?_
                        refine xget (pc := 107) C0 hH 78 33 clX10 ⟨Nat.le_of_ble_eq_true rfl, Nat.le_of_ble_eq_true rfl⟩ ⟨rfl, rfl⟩ (Nat.le_of_ble_eq_true rfl) fl_X10_73 (v := .ref (b + 98)) rfl dX10_isWritable_107 ?_
                        refine lv_aload_n (pc := 110) C0.1 C0.2.1 dX10_isWritable_110 rfl (lv_at hl 4 rfl) ?_
                        refine xget (pc := 111) C0 hH 78 41 clX10 ⟨Nat.le_of_ble_eq_true rfl, Nat.le_of_ble_eq_true rfl⟩ ⟨rfl, rfl⟩ (Nat.le_of_ble_eq_true rfl) fl_X10_94 (v := .ref (b + 105)) rfl dX10_isWritable_111 ?_
                        refine lv_iload_n (pc := 114) C0.1 C0.2.1 dX10_isWritable_114 rfl (lv_at hl 3 rfl) ?_
                        refine xiald (pc := 115) (N := 1202) C0 hH 105 ⟨Nat.le_of_ble_eq_true rfl, Nat.le_of_ble_eq_true rfl⟩ ⟨rfl, rfl⟩ (vI (by omega) (by omega)) dX10_isWritable_115 ?_
                        refine xiald (pc := 116) (N := 1202) C0 hH 98 ⟨Nat.le_of_ble_eq_true rfl, Nat.le_of_ble_eq_true rfl⟩ ⟨rfl, rfl⟩ (vI (hWA.ib _).1 (hWA.ib _).2) dX10_isWritable_116 ?_
                        refine lv_iconst (pc := 117) (v := 4) C0.1 C0.2.1 dX10_isWritable_117 (by decide) ?_
                        refine lv_icmp_ne (pc := 118) (tgt := 123) C0.1 C0.2.1 dX10_isWritable_118 (by decide) (fun c362 => ?_) (fun c362 => ?_)
                        · have : Int32.toInt 4 = 4 := rfl
                          have c362 : ¬ _ := fun q => c362 (Int32.toInt_inj.mp q)
                          refine lv_aload_n (pc := 123) C0.1 C0.2.1 dX10_isWritable_123 rfl (lv_at hl 4 rfl) ?_
                          refine xget (pc := 124) C0 hH 78 49 clX10 ⟨Nat.le_of_ble_eq_true rfl, Nat.le_of_ble_eq_true rfl⟩ ⟨rfl, rfl⟩ (Nat.le_of_ble_eq_true rfl) fl_X10_115 (v := .ref (b + 112)) rfl dX10_isWritable_124 ?_
                          refine lv_iload_n (pc := 127) C0.1 C0.2.1 dX10_isWritable_127 rfl (lv_at hl 2 rfl) ?_
                          refine xiald (pc := 128) (N := 1802) C0 hH 112 ⟨Nat.le_of_ble_eq_true rfl, Nat.le_of_ble_eq_true rfl⟩ ⟨rfl, rfl⟩ (vI (by omega) (by omega)) dX10_isWritable_128 ?_
                          refine lv_topi (fun x363 ex363 => ?_)
                          refine lv_istore_n (pc := 129) (lv' := [(3, .int x363), (2, .int 0), (4, .int x303), (1, .int k), (0, .ref (b + 78))]) C0.1 C0.2.1 dX10_isWritable_129 rfl hl (by decide) rfl (fun ls hl => ?_)
                          refine lv_goto (pc := 130) (tgt := 19) C0.1 C0.2.1 dX10_isWritable_130 (by decide) ?_
                          exact ih19 0 x363 _ _ _ (by have q0 := hR.2.1; unfold okN at q0; rw [← show x363 = F 112 (cl p_) from ex363] at q0; rcases q0 with q | q; exact Or.inl q.1; exact Or.inr ⟨⟨by have := q.1; omega, by have := q.1; omega⟩, by have := q.1; omega⟩) g2 hH hS (lv_sub hl [0, 1, 3, 4] rfl)
                        · have : Int32.toInt 4 = 4 := rfl
                          have c362 := congrArg Int32.toInt c362
                          refine lv_iconst (pc := 121) (v := 0) C0.1 C0.2.1 dX10_isWritable_121 (by decide) ?_
                          exact xzret (pc := 122) C0 hr hH hS dX10_isWritable_122 (by decide) ⟨rfl, by decide⟩
                  · have : Int32.toInt 0 = 0 := rfl
                    have c355 : ¬ _ := fun q => c355 (Int32.toInt_inj.mp q)
                    refine lv_aload_n (pc := 70) C0.1 C0.2.1 dX10_isWritable_70 rfl (lv_at hl 4 rfl) ?_
                    refine xget (pc := 71) C0 hH 78 37 clX10 ⟨Nat.le_of_ble_eq_true rfl, Nat.le_of_ble_eq_true rfl⟩ ⟨rfl, rfl⟩ (Nat.le_of_ble_eq_true rfl) fl_X10_85 (v := .ref (b + 102)) rfl dX10_isWritable_71 ?_
                    refine lv_bipush (pc := 74) (v := (-100)) C0.1 C0.2.1 dX10_isWritable_74 (by decide) ?_
                    refine lv_iload (pc := 76) C0.1 C0.2.1 dX10_isWritable_76 (lv_at hl 0 rfl) ?_
                    have : Int32.toInt (-100) = (-100) := rfl
                    refine lv_isub (pc := 78) C0.1 C0.2.1 dX10_isWritable_78 ?_
                    refine lv_topi (fun x364 ex364 => ?_)
                    have hx364 : Int32.toInt x364 = Int32.toInt (-100) - Int32.toInt x303 := by rw [ex364]; exact fb_subI (by omega) (by omega)
                    refine xiald (pc := 79) (N := 1202) C0 hH 102 ⟨Nat.le_of_ble_eq_true rfl, Nat.le_of_ble_eq_true rfl⟩ ⟨rfl, rfl⟩ (vI (by omega) (by omega)) dX10_isWritable_79 ?_
                    refine lv_if_ne (pc := 80) (tgt := 87) C0.1 C0.2.1 dX10_isWritable_80 (by decide) (fun c365 => ?_) (fun c365 => ?_)
                    · have : Int32.toInt 0 = 0 := rfl
                      have c365 : ¬ _ := fun q => c365 (Int32.toInt_inj.mp q)
                      refine lv_iconst (pc := 87) (v := 0) C0.1 C0.2.1 dX10_isWritable_87 (by decide) ?_
                      refine lv_istore_n (pc := 88) (lv' := [(2, .int 0), (4, .int x303), (3, .int p_), (1, .int k), (0, .ref (b + 78))]) C0.1 C0.2.1 dX10_isWritable_88 rfl hl (by decide) rfl (fun ls hl => ?_)
                      refine lv_iload (pc := 89) C0.1 C0.2.1 dX10_isWritable_89 (lv_at hl 1 rfl) ?_
                      refine lv_if_ge (pc := 91) (tgt := 123) C0.1 C0.2.1 dX10_isWritable_91 (by decide) (fun c366 => ?_) (fun c366 => ?_)
                      · have : Int32.toInt 0 = 0 := rfl
                        have c366 := Int32.le_iff_toInt_le.mp c366
                        refine lv_aload_n (pc := 123) C0.1 C0.2.1 dX10_isWritable_123 rfl (lv_at hl 4 rfl) ?_
                        refine xget (pc := 124) C0 hH 78 49 clX10 ⟨Nat.le_of_ble_eq_true rfl, Nat.le_of_ble_eq_true rfl⟩ ⟨rfl, rfl⟩ (Nat.le_of_ble_eq_true rfl) fl_X10_115 (v := .ref (b + 112)) rfl dX10_isWritable_124 ?_
                        refine lv_iload_n (pc := 127) C0.1 C0.2.1 dX10_isWritable_127 rfl (lv_at hl 2 rfl) ?_
                        refine xiald (pc := 128) (N := 1802) C0 hH 112 ⟨Nat.le_of_ble_eq_true rfl, Nat.le_of_ble_eq_true rfl⟩ ⟨rfl, rfl⟩ (vI (by omega) (by omega)) dX10_isWritable_128 ?_
                        refine lv_topi (fun x367 ex367 => ?_)
                        refine lv_istore_n (pc := 129) (lv' := [(3, .int x367), (2, .int 0), (4, .int x303), (1, .int k), (0, .ref (b + 78))]) C0.1 C0.2.1 dX10_isWritable_129 rfl hl (by decide) rfl (fun ls hl => ?_)
                        refine lv_goto (pc := 130) (tgt := 19) C0.1 C0.2.1 dX10_isWritable_130 (by decide) ?_
                        exact ih19 0 x367 _ _ _ (by have q0 := hR.2.1; unfold okN at q0; rw [← show x367 = F 112 (cl p_) from ex367] at q0; rcases q0 with q | q; exact Or.inl q.1; exact Or.inr ⟨⟨by have := q.1; omega, by have := q.1; omega⟩, by have := q.1; omega⟩) g2 hH hS (lv_sub hl [0, 1, 3, 4] rfl)
                      · have : Int32.toInt 0 = 0 := rfl
                        have c366 : ¬ _ := fun q => c366 (Int32.le_iff_toInt_le.mpr q)
                        refine lv_aload_n (pc := 94) C0.1 C0.2.1 dX10_isWritable_94 rfl (lv_at hl 4 rfl) ?_
                        refine lv_bipush (pc := 95) (v := (-100)) C0.1 C0.2.1 dX10_isWritable_95 (by decide) ?_
                        refine lv_iload (pc := 97) C0.1 C0.2.1 dX10_isWritable_97 (lv_at hl 1 rfl) ?_
                        have : Int32.toInt (-100) = (-100) := rfl
                        refine lv_isub (pc := 99) C0.1 C0.2.1 dX10_isWritable_99 ?_
                        refine lv_topi (fun x368 ex368 => ?_)
                        have hx368 : Int32.toInt x368 = Int32.toInt (-100) - Int32.toInt x303 := by rw [ex368]; exact fb_subI (by omega) (by omega)
                        refine xcVI (pc := 100) 78 [.int x368] (m_isStanding l D tA b i F G x368 (show 0 ≤ Int32.toInt x368 ∧ Int32.toInt x368 < 1202 from by omega)) C0 hH hS clX10 rfl ⟨⟨Nat.le_of_ble_eq_true rfl, Nat.le_of_ble_eq_true rfl⟩, rfl, rfl⟩ cw_X10_387 rfl ⟨Nat.le_of_ble_eq_true rfl, Nat.le_of_ble_eq_true rfl⟩ hl.1 rfl (Nat.le_of_ble_eq_true rfl) dX10_isWritable_100 ⟨Nat.le_of_ble_eq_true rfl, Nat.le_of_ble_eq_true rfl⟩ (fun r369 ir369 Fr369 Gr369 _ locs hp hH hS => ?_)
                        obtain ⟨hu, h01r369⟩ := hp
                        cases hu
                        refine lv_if_eq (pc := 103) (tgt := 123) C0.1 C0.2.1 dX10_isWritable_103 (by decide) (fun c370 => ?_) (fun c370 => ?_)
                        · have : Int32.toInt 0 = 0 := rfl
                          have c370 := congrArg Int32.toInt c370
                          refine lv_aload_n (pc := 123) C0.1 C0.2.1 dX10_isWritable_123 rfl (lv_at hl 4 rfl) ?_
                          refine xget (pc := 124) C0 hH 78 49 clX10 ⟨Nat.le_of_ble_eq_true rfl, Nat.le_of_ble_eq_true rfl⟩ ⟨rfl, rfl⟩ (Nat.le_of_ble_eq_true rfl) fl_X10_115 (v := .ref (b + 112)) rfl dX10_isWritable_124 ?_
                          refine lv_iload_n (pc := 127) C0.1 C0.2.1 dX10_isWritable_127 rfl (lv_at hl 2 rfl) ?_
                          refine xiald (pc := 128) (N := 1802) C0 hH 112 ⟨Nat.le_of_ble_eq_true rfl, Nat.le_of_ble_eq_true rfl⟩ ⟨rfl, rfl⟩ (vI (by omega) (by omega)) dX10_isWritable_128 ?_
                          refine lv_topi (fun x371 ex371 => ?_)
                          refine lv_istore_n (pc := 129) (lv' := [(3, .int x371), (2, .int 0), (4, .int x303), (1, .int k), (0, .ref (b + 78))]) C0.1 C0.2.1 dX10_isWritable_129 rfl hl (by decide) rfl (fun ls hl => ?_)
                          refine lv_goto (pc := 130) (tgt := 19) C0.1 C0.2.1 dX10_isWritable_130 (by decide) ?_
                          exact ih19 0 x371 _ _ _ (by have q0 := hR.2.1; unfold okN at q0; rw [← show x371 = F 112 (cl p_) from ex371] at q0; rcases q0 with q | q; exact Or.inl q.1; exact Or.inr ⟨⟨by have := q.1; omega, by have := q.1; omega⟩, by have := q.1; omega⟩) g2 hH hS (lv_sub hl [0, 1, 3, 4] rfl)
                        · have : Int32.toInt 0 = 0 := rfl
                          have c370 : ¬ _ := fun q => c370 (Int32.toInt_inj.mp q)
                          refine lv_aload_n (pc := 106) C0.1 C0.2.1 dX10_isWritable_106 rfl (lv_at hl 4 rfl) ?_
                          refine xget (pc := 107) C0 hH 78 33 clX10 ⟨Nat.le_of_ble_eq_true rfl, Nat.le_of_ble_eq_true rfl⟩ ⟨rfl, rfl⟩ (Nat.le_of_ble_eq_true rfl) fl_X10_73 (v := .ref (b + 98)) rfl dX10_isWritable_107 ?_
                          refine lv_aload_n (pc := 110) C0.1 C0.2.1 dX10_isWritable_110 rfl (lv_at hl 4 rfl) ?_
                          refine xget (pc := 111) C0 hH 78 41 clX10 ⟨Nat.le_of_ble_eq_true rfl, Nat.le_of_ble_eq_true rfl⟩ ⟨rfl, rfl⟩ (Nat.le_of_ble_eq_true rfl) fl_X10_94 (v := .ref (b + 105)) rfl dX10_isWritable_111 ?_
                          refine lv_iload_n (pc := 114) C0.1 C0.2.1 dX10_isWritable_114 rfl (lv_at hl 3 rfl) ?_
                          refine xiald (pc := 115) (N := 1202) C0 hH 105 ⟨Nat.le_of_ble_eq_true rfl, Nat.le_of_ble_eq_true rfl⟩ ⟨rfl, rfl⟩ (vI (by omega) (by omega)) dX10_isWritable_115 ?_
                          refine xiald (pc := 116) (N := 1202) C0 hH 98 ⟨Nat.le_of_ble_eq_true rfl, Nat.le_of_ble_eq_true rfl⟩ ⟨rfl, rfl⟩ (vI (hWA.ib _).1 (hWA.ib _).2) dX10_isWritable_116 ?_
                          refine lv_iconst (pc := 117) (v := 4) C0.1 C0.2.1 dX10_isWritable_117 (by decide) ?_
                          refine lv_icmp_ne (pc := 118) (tgt := 123) C0.1 C0.2.1 dX10_isWritable_118 (by decide) (fun c372 => ?_) (fun c372 => ?_)
                          · have : Int32.toInt 4 = 4 := rfl
                            have c372 : ¬ _ := fun q => c372 (Int32.toInt_inj.mp q)
                            refine lv_aload_n (pc := 123) C0.1 C0.2.1 dX10_isWritable_123 rfl (lv_at hl 4 rfl) ?_
                            refine xget (pc := 124) C0 hH 78 49 clX10 ⟨Nat.le_of_ble_eq_true rfl, Nat.le_of_ble_eq_true rfl⟩ ⟨rfl, rfl⟩ (Nat.le_of_ble_eq_true rfl) fl_X10_115 (v := .ref (b + 112)) rfl dX10_isWritable_124 ?_
                            refine lv_iload_n (pc := 127) C0.1 C0.2.1 dX10_isWritable_127 rfl (lv_at hl 2 rfl) ?_
                            refine xiald (pc := 128) (N := 1802) C0 hH 112 ⟨Nat.le_of_ble_eq_true rfl, Nat.le_of_ble_eq_true rfl⟩ ⟨rfl, rfl⟩ (vI (by omega) (by omega)) dX10_isWritable_128 ?_
                            refine lv_topi (fun x373 ex373 => ?_)
                            refine lv_istore_n (pc := 129) (lv' := [(3, .int x373), (2, .int 0), (4, .int x303), (1, .int k), (0, .ref (b + 78))]) C0.1 C0.2.1 dX10_isWritable_129 rfl hl (by decide) rfl (fun ls hl => ?_)
                            refine lv_goto (pc := 130) (tgt := 19) C0.1 C0.2.1 dX10_isWritable_130 (by decide) ?_
                            exact ih19 0 x373 _ _ _ (by have q0 := hR.2.1; unfold okN at q0; rw [← show x373 = F 112 (cl p_) from ex373] at q0; rcases q0 with q | q; exact Or.inl q.1; exact Or.inr ⟨⟨by have := q.1; omega, by have := q.1; omega⟩, by have := q.1; omega⟩) g2 hH hS (lv_sub hl [0, 1, 3, 4] rfl)
                          · have : Int32.toInt 4 = 4 := rfl
                            have c372 := congrArg Int32.toInt c372
                            refine lv_iconst (pc := 121) (v := 0) C0.1 C0.2.1 dX10_isWritable_121 (by decide) ?_
                            exact xzret (pc := 122) C0 hr hH hS dX10_isWritable_122 (by decide) ⟨rfl, by decide⟩
                    · have : Int32.toInt 0 = 0 := rfl
                      have c365 := congrArg Int32.toInt c365
                      refine lv_iconst (pc := 83) (v := 1) C0.1 C0.2.1 dX10_isWritable_83 (by decide) ?_
                      refine lv_goto (pc := 84) (tgt := 88) C0.1 C0.2.1 dX10_isWritable_84 (by decide) ?_
                      refine lv_istore_n (pc := 88) (lv' := [(2, .int 1), (4, .int x303), (3, .int p_), (1, .int k), (0, .ref (b + 78))]) C0.1 C0.2.1 dX10_isWritable_88 rfl hl (by decide) rfl (fun ls hl => ?_)
                      refine lv_iload (pc := 89) C0.1 C0.2.1 dX10_isWritable_89 (lv_at hl 1 rfl) ?_
                      refine lv_if_ge (pc := 91) (tgt := 123) C0.1 C0.2.1 dX10_isWritable_91 (by decide) (fun c374 => ?_) (fun c374 => ?_)
                      · have : Int32.toInt 0 = 0 := rfl
                        have c374 := Int32.le_iff_toInt_le.mp c374
                        refine lv_aload_n (pc := 123) C0.1 C0.2.1 dX10_isWritable_123 rfl (lv_at hl 4 rfl) ?_
                        refine xget (pc := 124) C0 hH 78 49 clX10 ⟨Nat.le_of_ble_eq_true rfl, Nat.le_of_ble_eq_true rfl⟩ ⟨rfl, rfl⟩ (Nat.le_of_ble_eq_true rfl) fl_X10_115 (v := .ref (b + 112)) rfl dX10_isWritable_124 ?_
                        refine lv_iload_n (pc := 127) C0.1 C0.2.1 dX10_isWritable_127 rfl (lv_at hl 2 rfl) ?_
                        refine xiald (pc := 128) (N := 1802) C0 hH 112 ⟨Nat.le_of_ble_eq_true rfl, Nat.le_of_ble_eq_true rfl⟩ ⟨rfl, rfl⟩ (vI (by omega) (by omega)) dX10_isWritable_128 ?_
                        refine lv_topi (fun x375 ex375 => ?_)
                        refine lv_istore_n (pc := 129) (lv' := [(3, .int x375), (2, .int 1), (4, .int x303), (1, .int k), (0, .ref (b + 78))]) C0.1 C0.2.1 dX10_isWritable_129 rfl hl (by decide) rfl (fun ls hl => ?_)
                        refine lv_goto (pc := 130) (tgt := 19) C0.1 C0.2.1 dX10_isWritable_130 (by decide) ?_
                        exact ih19 1 x375 _ _ _ (by have q0 := hR.2.1; unfold okN at q0; rw [← show x375 = F 112 (cl p_) from ex375] at q0; rcases q0 with q | q; exact Or.inl q.1; exact Or.inr ⟨⟨by have := q.1; omega, by have := q.1; omega⟩, by have := q.1; omega⟩) g2 hH hS (lv_sub hl [0, 1, 3, 4] rfl)
                      · have : Int32.toInt 0 = 0 := rfl
                        have c374 : ¬ _ := fun q => c374 (Int32.le_iff_toInt_le.mpr q)
                        refine lv_aload_n (pc := 94) C0.1 C0.2.1 dX10_isWritable_94 rfl (lv_at hl 4 rfl) ?_
                        refine lv_bipush (pc := 95) (v := (-100)) C0.1 C0.2.1 dX10_isWritable_95 (by decide) ?_
                        refine lv_iload (pc := 97) C0.1 C0.2.1 dX10_isWritable_97 (lv_at hl 1 rfl) ?_
                        have : Int32.toInt (-100) = (-100) := rfl
                        refine lv_isub (pc := 99) C0.1 C0.2.1 dX10_isWritable_99 ?_
                        refine lv_topi (fun x376 ex376 => ?_)
                        have hx376 : Int32.toInt x376 = Int32.toInt (-100) - Int32.toInt x303 := by rw [ex376]; exact fb_subI (by omega) (by omega)
                        refine xcVI (pc := 100) 78 [.int x376] (m_isStanding l D tA b i F G x376 (show 0 ≤ Int32.toInt x376 ∧ Int32.toInt x376 < 1202 from by omega)) C0 hH hS clX10 rfl ⟨⟨Nat.le_of_ble_eq_true rfl, Nat.le_of_ble_eq_true rfl⟩, rfl, rfl⟩ cw_X10_387 rfl ⟨Nat.le_of_ble_eq_true rfl, Nat.le_of_ble_eq_true rfl⟩ hl.1 rfl (Nat.le_of_ble_eq_true rfl) dX10_isWritable_100 ⟨Nat.le_of_ble_eq_true rfl, Nat.le_of_ble_eq_true rfl⟩ (fun r377 ir377 Fr377 Gr377 _ locs hp hH hS => ?_)
                        obtain ⟨hu, h01r377⟩ := hp
                        cases hu
                        refine lv_if_eq (pc := 103) (tgt := 123) C0.1 C0.2.1 dX10_isWritable_103 (by decide) (fun c378 => ?_) (fun c378 => ?_)
                        · have : Int32.toInt 0 = 0 := rfl
                          have c378 := congrArg Int32.toInt c378
                          refine lv_aload_n (pc := 123) C0.1 C0.2.1 dX10_isWritable_123 rfl (lv_at hl 4 rfl) ?_
                          refine xget (pc := 124) C0 hH 78 49 clX10 ⟨Nat.le_of_ble_eq_true rfl, Nat.le_of_ble_eq_true rfl⟩ ⟨rfl, rfl⟩ (Nat.le_of_ble_eq_true rfl) fl_X10_115 (v := .ref (b + 112)) rfl dX10_isWritable_124 ?_
                          refine lv_iload_n (pc := 127) C0.1 C0.2.1 dX10_isWritable_127 rfl (lv_at hl 2 rfl) ?_
                          refine xiald (pc := 128) (N := 1802) C0 hH 112 ⟨Nat.le_of_ble_eq_true rfl, Nat.le_of_ble_eq_true rfl⟩ ⟨rfl, rfl⟩ (vI (by omega) (by omega)) dX10_isWritable_128 ?_
                          refine lv_topi (fun x379 ex379 => ?_)
                          refine lv_istore_n (pc := 129) (lv' := [(3, .int x379), (2, .int 1), (4, .int x303), (1, .int k), (0, .ref (b + 78))]) C0.1 C0.2.1 dX10_isWritable_129 rfl hl (by decide) rfl (fun ls hl => ?_)
                          refine lv_goto (pc := 130) (tgt := 19) C0.1 C0.2.1 dX10_isWritable_130 (by decide) ?_
                          exact ih19 1 x379 _ _ _ (by have q0 := hR.2.1; unfold okN at q0; rw [← show x379 = F 112 (cl p_) from ex379] at q0; rcases q0 with q | q; exact Or.inl q.1; exact Or.inr ⟨⟨by have := q.1; omega, by have := q.1; omega⟩, by have := q.1; omega⟩) g2 hH hS (lv_sub hl [0, 1, 3, 4] rfl)
                        · have : Int32.toInt 0 = 0 := rfl
                          have c378 : ¬ _ := fun q => c378 (Int32.toInt_inj.mp q)
                          refine lv_aload_n (pc := 106) C0.1 C0.2.1 dX10_isWritable_106 rfl (lv_at hl 4 rfl) ?_
                          refine xget (pc := 107) C0 hH 78 33 clX10 ⟨Nat.le_of_ble_eq_true rfl, Nat.le_of_ble_eq_true rfl⟩ ⟨rfl, rfl⟩ (Nat.le_of_ble_eq_true rfl) fl_X10_73 (v := .ref (b + 98)) rfl dX10_isWritable_107 ?_
                          refine lv_aload_n (pc := 110) C0.1 C0.2.1 dX10_isWritable_110 rfl (lv_at hl 4 rfl) ?_
                          refine xget (pc := 111) C0 hH 78 41 clX10 ⟨Nat.le_of_ble_eq_true rfl, Nat.le_of_ble_eq_true rfl⟩ ⟨rfl, rfl⟩ (Nat.le_of_ble_eq_true rfl) fl_X10_94 (v := .ref (b + 105)) rfl dX10_isWritable_111 ?_
                          refine lv_iload_n (pc := 114) C0.1 C0.2.1 dX10_isWritable_114 rfl (lv_at hl 3 rfl) ?_
                          refine xiald (pc := 115) (N := 1202) C0 hH 105 ⟨Nat.le_of_ble_eq_true rfl, Nat.le_of_ble_eq_true rfl⟩ ⟨rfl, rfl⟩ (vI (by omega) (by omega)) dX10_isWritable_115 ?_
                          refine xiald (pc := 116) (N := 1202) C0 hH 98 ⟨Nat.le_of_ble_eq_true rfl, Nat.le_of_ble_eq_true rfl⟩ ⟨rfl, rfl⟩ (vI (hWA.ib _).1 (hWA.ib _).2) dX10_isWritable_116 ?_
                          refine lv_iconst (pc := 117) (v := 4) C0.1 C0.2.1 dX10_isWritable_117 (by decide) ?_
                          refine lv_icmp_ne (pc := 118) (tgt := 123) C0.1 C0.2.1 dX10_isWritable_118 (by decide) (fun c380 => ?_) (fun c380 => ?_)
                          · have : Int32.toInt 4 = 4 := rfl
                            have c380 : ¬ _ := fun q => c380 (Int32.toInt_inj.mp q)
                            refine lv_aload_n (pc := 123) C0.1 C0.2.1 dX10_isWritable_123 rfl (lv_at hl 4 rfl) ?_
                            refine xget (pc := 124) C0 hH 78 49 clX10 ⟨Nat.le_of_ble_eq_true rfl, Nat.le_of_ble_eq_true rfl⟩ ⟨rfl, rfl⟩ (Nat.le_of_ble_eq_true rfl) fl_X10_115 (v := .ref (b + 112)) rfl dX10_isWritable_124 ?_
                            refine lv_iload_n (pc := 127) C0.1 C0.2.1 dX10_isWritable_127 rfl (lv_at hl 2 rfl) ?_
                            refine xiald (pc := 128) (N := 1802) C0 hH 112 ⟨Nat.le_of_ble_eq_true rfl, Nat.le_of_ble_eq_true rfl⟩ ⟨rfl, rfl⟩ (vI (by omega) (by omega)) dX10_isWritable_128 ?_
                            refine lv_topi (fun x381 ex381 => ?_)
                            refine lv_istore_n (pc := 129) (lv' := [(3, .int x381), (2, .int 1), (4, .int x303), (1, .int k), (0, .ref (b + 78))]) C0.1 C0.2.1 dX10_isWritable_129 rfl hl (by decide) rfl (fun ls hl => ?_)
                            refine lv_goto (pc := 130) (tgt := 19) C0.1 C0.2.1 dX10_isWritable_130 (by decide) ?_
                            exact ih19 1 x381 _ _ _ (by have q0 := hR.2.1; unfold okN at q0; rw [← show x381 = F 112 (cl p_) from ex381] at q0; rcases q0 with q | q; exact Or.inl q.1; exact Or.inr ⟨⟨by have := q.1; omega, by have := q.1; omega⟩, by have := q.1; omega⟩) g2 hH hS (lv_sub hl [0, 1, 3, 4] rfl)
                          · have : Int32.toInt 4 = 4 := rfl
                            have c380 := congrArg Int32.toInt c380
                            refine lv_iconst (pc := 121) (v := 0) C0.1 C0.2.1 dX10_isWritable_121 (by decide) ?_
                            exact xzret (pc := 122) C0 hr hH hS dX10_isWritable_122 (by decide) ⟨rfl, by decide⟩
              · have : Int32.toInt 0 = 0 := rfl
                have c343 : ¬ _ := fun q => c343 (Int32.toInt_inj.mp q)
                refine lv_aload_n (pc := 42) C0.1 C0.2.1 dX10_isWritable_42 rfl (lv_at hl 4 rfl) ?_
                refine lv_iload (pc := 43) C0.1 C0.2.1 dX10_isWritable_43 (lv_at hl 0 rfl) ?_
                refine xcVI (pc := 45) 78 [.int x303] (m_isCloser l D tA b i F G x303 hBR (by omega)) C0 hH hS clX10 rfl ⟨⟨Nat.le_of_ble_eq_true rfl, Nat.le_of_ble_eq_true rfl⟩, rfl, rfl⟩ cw_X10_307 rfl ⟨Nat.le_of_ble_eq_true rfl, Nat.le_of_ble_eq_true rfl⟩ hl.1 rfl (Nat.le_of_ble_eq_true rfl) dX10_isWritable_45 ⟨Nat.le_of_ble_eq_true rfl, Nat.le_of_ble_eq_true rfl⟩ (fun r382 ir382 Fr382 Gr382 _ locs hp hH hS => ?_)
                obtain ⟨hu, hpr382⟩ := hp
                cases hu
                refine lv_if_ne (pc := 48) (tgt := 53) C0.1 C0.2.1 dX10_isWritable_48 (by decide) (fun c383 => ?_) (fun c383 => ?_)
                · have : Int32.toInt 0 = 0 := rfl
                  have c383 : ¬ _ := fun q => c383 (Int32.toInt_inj.mp q)
                  refine lv_iload (pc := 53) C0.1 C0.2.1 dX10_isWritable_53 (lv_at hl 0 rfl) ?_
                  refine lv_if_ge (pc := 55) (tgt := 87) C0.1 C0.2.1 dX10_isWritable_55 (by decide) (fun c384 => ?_) (fun c384 => ?_)
                  · have : Int32.toInt 0 = 0 := rfl
                    have c384 := Int32.le_iff_toInt_le.mp c384
                    refine lv_iconst (pc := 87) (v := 0) C0.1 C0.2.1 dX10_isWritable_87 (by decide) ?_
                    refine lv_istore_n (pc := 88) (lv' := [(2, .int 0), (4, .int x303), (3, .int p_), (1, .int k), (0, .ref (b + 78))]) C0.1 C0.2.1 dX10_isWritable_88 rfl hl (by decide) rfl (fun ls hl => ?_)
                    refine lv_iload (pc := 89) C0.1 C0.2.1 dX10_isWritable_89 (lv_at hl 1 rfl) ?_
                    refine lv_if_ge (pc := 91) (tgt := 123) C0.1 C0.2.1 dX10_isWritable_91 (by decide) (fun c385 => ?_) (fun c385 => ?_)
                    · have : Int32.toInt 0 = 0 := rfl
                      have c385 := Int32.le_iff_toInt_le.mp c385
                      refine lv_aload_n (pc := 123) C0.1 C0.2.1 dX10_isWritable_123 rfl (lv_at hl 4 rfl) ?_
                      refine xget (pc := 124) C0 hH 78 49 clX10 ⟨Nat.le_of_ble_eq_true rfl, Nat.le_of_ble_eq_true rfl⟩ ⟨rfl, rfl⟩ (Nat.le_of_ble_eq_true rfl) fl_X10_115 (v := .ref (b + 112)) rfl dX10_isWritable_124 ?_
                      refine lv_iload_n (pc := 127) C0.1 C0.2.1 dX10_isWritable_127 rfl (lv_at hl 2 rfl) ?_
                      refine xiald (pc := 128) (N := 1802) C0 hH 112 ⟨Nat.le_of_ble_eq_true rfl, Nat.le_of_ble_eq_true rfl⟩ ⟨rfl, rfl⟩ (vI (by omega) (by omega)) dX10_isWritable_128 ?_
                      refine lv_topi (fun x386 ex386 => ?_)
                      refine lv_istore_n (pc := 129) (lv' := [(3, .int x386), (2, .int 0), (4, .int x303), (1, .int k), (0, .ref (b + 78))]) C0.1 C0.2.1 dX10_isWritable_129 rfl hl (by decide) rfl (fun ls hl => ?_)
                      refine lv_goto (pc := 130) (tgt := 19) C0.1 C0.2.1 dX10_isWritable_130 (by decide) ?_
                      exact ih19 0 x386 _ _ _ (by have q0 := hR.2.1; unfold okN at q0; rw [← show x386 = F 112 (cl p_) from ex386] at q0; rcases q0 with q | q; exact Or.inl q.1; exact Or.inr ⟨⟨by have := q.1; omega, by have := q.1; omega⟩, by have := q.1; omega⟩) g2 hH hS (lv_sub hl [0, 1, 3, 4] rfl)
                    · have : Int32.toInt 0 = 0 := rfl
                      have c385 : ¬ _ := fun q => c385 (Int32.le_iff_toInt_le.mpr q)
                      refine lv_aload_n (pc := 94) C0.1 C0.2.1 dX10_isWritable_94 rfl (lv_at hl 4 rfl) ?_
                      refine lv_bipush (pc := 95) (v := (-100)) C0.1 C0.2.1 dX10_isWritable_95 (by decide) ?_
                      refine lv_iload (pc := 97) C0.1 C0.2.1 dX10_isWritable_97 (lv_at hl 1 rfl) ?_
                      have : Int32.toInt (-100) = (-100) := rfl
                      refine lv_isub (pc := 99) C0.1 C0.2.1 dX10_isWritable_99 ?_
                      refine lv_topi (fun x387 ex387 => ?_)
                      have hx387 : Int32.toInt x387 = Int32.toInt (-100) - Int32.toInt x303 := by rw [ex387]; exact fb_subI (by omega) (by omega)
                      refine xcVI (pc := 100) 78 [.int x387] (m_isStanding l D tA b i F G x387 (show 0 ≤ Int32.toInt x387 ∧ Int32.toInt x387 < 1202 from by omega)) C0 hH hS clX10 rfl ⟨⟨Nat.le_of_ble_eq_true rfl, Nat.le_of_ble_eq_true rfl⟩, rfl, rfl⟩ cw_X10_387 rfl ⟨Nat.le_of_ble_eq_true rfl, Nat.le_of_ble_eq_true rfl⟩ hl.1 rfl (Nat.le_of_ble_eq_true rfl) dX10_isWritable_100 ⟨Nat.le_of_ble_eq_true rfl, Nat.le_of_ble_eq_true rfl⟩ (fun r388 ir388 Fr388 Gr388 _ locs hp hH hS => ?_)
                      obtain ⟨hu, h01r388⟩ := hp
                      cases hu
                      refine lv_if_eq (pc := 103) (tgt := 123) C0.1 C0.2.1 dX10_isWritable_103 (by decide) (fun c389 => ?_) (fun c389 => ?_)
                      · have : Int32.toInt 0 = 0 := rfl
                        have c389 := congrArg Int32.toInt c389
                        refine lv_aload_n (pc := 123) C0.1 C0.2.1 dX10_isWritable_123 rfl (lv_at hl 4 rfl) ?_
                        refine xget (pc := 124) C0 hH 78 49 clX10 ⟨Nat.le_of_ble_eq_true rfl, Nat.le_of_ble_eq_true rfl⟩ ⟨rfl, rfl⟩ (Nat.le_of_ble_eq_true rfl) fl_X10_115 (v := .ref (b + 112)) rfl dX10_isWritable_124 ?_
                        refine lv_iload_n (pc := 127) C0.1 C0.2.1 dX10_isWritable_127 rfl (lv_at hl 2 rfl) ?_
                        refine xiald (pc := 128) (N := 1802) C0 hH 112 ⟨Nat.le_of_ble_eq_true rfl, Nat.le_of_ble_eq_true rfl⟩ ⟨rfl, rfl⟩ (vI (by omega) (by omega)) dX10_isWritable_128 ?_
                        refine lv_topi (fun x390 ex390 => ?_)
                        refine lv_istore_n (pc := 129) (lv' := [(3, .int x390), (2, .int 0), (4, .int x303), (1, .int k), (0, .ref (b + 78))]) C0.1 C0.2.1 dX10_isWritable_129 rfl hl (by decide) rfl (fun ls hl => ?_)
                        refine lv_goto (pc := 130) (tgt := 19) C0.1 C0.2.1 dX10_isWritable_130 (by decide) ?_
                        exact ih19 0 x390 _ _ _ (by have q0 := hR.2.1; unfold okN at q0; rw [← show x390 = F 112 (cl p_) from ex390] at q0; rcases q0 with q | q; exact Or.inl q.1; exact Or.inr ⟨⟨by have := q.1; omega, by have := q.1; omega⟩, by have := q.1; omega⟩) g2 hH hS (lv_sub hl [0, 1, 3, 4] rfl)
                      · have : Int32.toInt 0 = 0 := rfl
                        have c389 : ¬ _ := fun q => c389 (Int32.toInt_inj.mp q)
                        refine lv_aload_n (pc := 106) C0.1 C0.2.1 dX10_isWritable_106 rfl (lv_at hl 4 rfl) ?_
                        refine xget (pc := 107) C0 hH 78 33 clX10 ⟨Nat.le_of_ble_eq_true rfl, Nat.le_of_ble_eq_true rfl⟩ ⟨rfl, rfl⟩ (Nat.le_of_ble_eq_true rfl) fl_X10_73 (v := .ref (b + 98)) rfl dX10_isWritable_107 ?_
                        refine lv_aload_n (pc := 110) C0.1 C0.2.1 dX10_isWritable_110 rfl (lv_at hl 4 rfl) ?_
                        refine xget (pc := 111) C0 hH 78 41 clX10 ⟨Nat.le_of_ble_eq_true rfl, Nat.le_of_ble_eq_true rfl⟩ ⟨rfl, rfl⟩ (Nat.le_of_ble_eq_true rfl) fl_X10_94 (v := .ref (b + 105)) rfl dX10_isWritable_111 ?_
                        refine lv_iload_n (pc := 114) C0.1 C0.2.1 dX10_isWritable_114 rfl (lv_at hl 3 rfl) ?_
                        refine xiald (pc := 115) (N := 1202) C0 hH 105 ⟨Nat.le_of_ble_eq_true rfl, Nat.le_of_ble_eq_true rfl⟩ ⟨rfl, rfl⟩ (vI (by omega) (by omega)) dX10_isWritable_115 ?_
                        refine xiald (pc := 116) (N := 1202) C0 hH 98 ⟨Nat.le_of_ble_eq_true rfl, Nat.le_of_ble_eq_true rfl⟩ ⟨rfl, rfl⟩ (vI (hWA.ib _).1 (hWA.ib _).2) dX10_isWritable_116 ?_
                        refine lv_iconst (pc := 117) (v := 4) C0.1 C0.2.1 dX10_isWritable_117 (by decide) ?_
                        refine lv_icmp_ne (pc := 118) (tgt := 123) C0.1 C0.2.1 dX10_isWritable_118 (by decide) (fun c391 => ?_) (fun c391 => ?_)
                        · have : Int32.toInt 4 = 4 := rfl
                          have c391 : ¬ _ := fun q => c391 (Int32.toInt_inj.mp q)
                          refine lv_aload_n (pc := 123) C0.1 C0.2.1 dX10_isWritable_123 rfl (lv_at hl 4 rfl) ?_
                          refine xget (pc := 124) C0 hH 78 49 clX10 ⟨Nat.le_of_ble_eq_true rfl, Nat.le_of_ble_eq_true rfl⟩ ⟨rfl, rfl⟩ (Nat.le_of_ble_eq_true rfl) fl_X10_115 (v := .ref (b + 112)) rfl dX10_isWritable_124 ?_
                          refine lv_iload_n (pc := 127) C0.1 C0.2.1 dX10_isWritable_127 rfl (lv_at hl 2 rfl) ?_
                          refine xiald (pc := 128) (N := 1802) C0 hH 112 ⟨Nat.le_of_ble_eq_true rfl, Nat.le_of_ble_eq_true rfl⟩ ⟨rfl, rfl⟩ (vI (by omega) (by omega)) dX10_isWritable_128 ?_
                          refine lv_topi (fun x392 ex392 => ?_)
                          refine lv_istore_n (pc := 129) (lv' := [(3, .int x392), (2, .int 0), (4, .int x303), (1, .int k), (0, .ref (b + 78))]) C0.1 C0.2.1 dX10_isWritable_129 rfl hl (by decide) rfl (fun ls hl => ?_)
                          refine lv_goto (pc := 130) (tgt := 19) C0.1 C0.2.1 dX10_isWritable_130 (by decide) ?_
                          exact ih19 0 x392 _ _ _ (by have q0 := hR.2.1; unfold okN at q0; rw [← show x392 = F 112 (cl p_) from ex392] at q0; rcases q0 with q | q; exact Or.inl q.1; exact Or.inr ⟨⟨by have := q.1; omega, by have := q.1; omega⟩, by have := q.1; omega⟩) g2 hH hS (lv_sub hl [0, 1, 3, 4] rfl)
                        · have : Int32.toInt 4 = 4 := rfl
                          have c391 := congrArg Int32.toInt c391
                          refine lv_iconst (pc := 121) (v := 0) C0.1 C0.2.1 dX10_isWritable_121 (by decide) ?_
                          exact xzret (pc := 122) C0 hr hH hS dX10_isWritable_122 (by decide) ⟨rfl, by decide⟩
                  · have : Int32.toInt 0 = 0 := rfl
                    have c384 : ¬ _ := fun q => c384 (Int32.le_iff_toInt_le.mpr q)
                    refine lv_aload_n (pc := 58) C0.1 C0.2.1 dX10_isWritable_58 rfl (lv_at hl 4 rfl) ?_
                    refine lv_bipush (pc := 59) (v := (-100)) C0.1 C0.2.1 dX10_isWritable_59 (by decide) ?_
                    refine lv_iload (pc := 61) C0.1 C0.2.1 dX10_isWritable_61 (lv_at hl 0 rfl) ?_
                    have : Int32.toInt (-100) = (-100) := rfl
                    refine lv_isub (pc := 63) C0.1 C0.2.1 dX10_isWritable_63 ?_
                    refine lv_topi (fun x393 ex393 => ?_)
                    have hx393 : Int32.toInt x393 = Int32.toInt (-100) - Int32.toInt x303 := by rw [ex393]; exact fb_subI (by omega) (by omega)
                    refine xcVI (pc := 64) 78 [.int x393] (m_isStanding l D tA b i F G x393 (show 0 ≤ Int32.toInt x393 ∧ Int32.toInt x393 < 1202 from by omega)) C0 hH hS clX10 rfl ⟨⟨Nat.le_of_ble_eq_true rfl, Nat.le_of_ble_eq_true rfl⟩, rfl, rfl⟩ cw_X10_387 rfl ⟨Nat.le_of_ble_eq_true rfl, Nat.le_of_ble_eq_true rfl⟩ hl.1 rfl (Nat.le_of_ble_eq_true rfl) dX10_isWritable_64 ⟨Nat.le_of_ble_eq_true rfl, Nat.le_of_ble_eq_true rfl⟩ (fun r394 ir394 Fr394 Gr394 _ locs hp hH hS => ?_)
                    obtain ⟨hu, h01r394⟩ := hp
                    cases hu
                    refine lv_if_eq (pc := 67) (tgt := 87) C0.1 C0.2.1 dX10_isWritable_67 (by decide) (fun c395 => ?_) (fun c395 => ?_)
                    · have : Int32.toInt 0 = 0 := rfl
                      have c395 := congrArg Int32.toInt c395
                      refine lv_iconst (pc := 87) (v := 0) C0.1 C0.2.1 dX10_isWritable_87 (by decide) ?_
                      refine lv_istore_n (pc := 88) (lv' := [(2, .int 0), (4, .int x303), (3, .int p_), (1, .int k), (0, .ref (b + 78))]) C0.1 C0.2.1 dX10_isWritable_88 rfl hl (by decide) rfl (fun ls hl => ?_)
                      refine lv_iload (pc := 89) C0.1 C0.2.1 dX10_isWritable_89 (lv_at hl 1 rfl) ?_
                      refine lv_if_ge (pc := 91) (tgt := 123) C0.1 C0.2.1 dX10_isWritable_91 (by decide) (fun c396 => ?_) (fun c396 => ?_)
                      · have : Int32.toInt 0 = 0 := rfl
                        have c396 := Int32.le_iff_toInt_le.mp c396
                        refine lv_aload_n (pc := 123) C0.1 C0.2.1 dX10_isWritable_123 rfl (lv_at hl 4 rfl) ?_
                        refine xget (pc := 124) C0 hH 78 49 clX10 ⟨Nat.le_of_ble_eq_true rfl, Nat.le_of_ble_eq_true rfl⟩ ⟨rfl, rfl⟩ (Nat.le_of_ble_eq_true rfl) fl_X10_115 (v := .ref (b + 112)) rfl dX10_isWritable_124 ?_
                        refine lv_iload_n (pc := 127) C0.1 C0.2.1 dX10_isWritable_127 rfl (lv_at hl 2 rfl) ?_
                        refine xiald (pc := 128) (N := 1802) C0 hH 112 ⟨Nat.le_of_ble_eq_true rfl, Nat.le_of_ble_eq_true rfl⟩ ⟨rfl, rfl⟩ (vI (by omega) (by omega)) dX10_isWritable_128 ?_
                        refine lv_topi (fun x397 ex397 => ?_)
                        refine lv_istore_n (pc := 129) (lv' := [(3, .int x397), (2, .int 0), (4, .int x303), (1, .int k), (0, .ref (b + 78))]) C0.1 C0.2.1 dX10_isWritable_129 rfl hl (by decide) rfl (fun ls hl => ?_)
                        refine lv_goto (pc := 130) (tgt := 19) C0.1 C0.2.1 dX10_isWritable_130 (by decide) ?_
                        exact ih19 0 x397 _ _ _ (by have q0 := hR.2.1; unfold okN at q0; rw [← show x397 = F 112 (cl p_) from ex397] at q0; rcases q0 with q | q; exact Or.inl q.1; exact Or.inr ⟨⟨by have := q.1; omega, by have := q.1; omega⟩, by have := q.1; omega⟩) g2 hH hS (lv_sub hl [0, 1, 3, 4] rfl)
                      · have : Int32.toInt 0 = 0 := rfl
                        have c396 : ¬ _ := fun q => c396 (Int32.le_iff_toInt_le.mpr q)
                        refine lv_aload_n (pc := 94) C0.1 C0.2.1 dX10_isWritable_94 rfl (lv_at hl 4 rfl) ?_
                        refine lv_bipush (pc := 95) (v := (-100)) C0.1 C0.2.1 dX10_isWritable_95 (by decide) ?_
                        refine lv_iload (pc := 97) C0.1 C0.2.1 dX10_isWritable_97 (lv_at hl 1 rfl) ?_
                        have : Int32.toInt (-100) = (-100) := rfl
                        refine lv_isub (pc := 99) C0.1 C0.2.1 dX10_isWritable_99 ?_
                        refine lv_topi (fun x398 ex398 => ?_)
                        have hx398 : Int32.toInt x398 = Int32.toInt (-100) - Int32.toInt x303 := by rw [ex398]; exact fb_subI (by omega) (by omega)
                        refine xcVI (pc := 100) 78 [.int x398] (m_isStanding l D tA b i F G x398 (show 0 ≤ Int32.toInt x398 ∧ Int32.toInt x398 < 1202 from by omega)) C0 hH hS clX10 rfl ⟨⟨Nat.le_of_ble_eq_true rfl, Nat.le_of_ble_eq_true rfl⟩, rfl, rfl⟩ cw_X10_387 rfl ⟨Nat.le_of_ble_eq_true rfl, Nat.le_of_ble_eq_true rfl⟩ hl.1 rfl (Nat.le_of_ble_eq_true rfl) dX10_isWritable_100 ⟨Nat.le_of_ble_eq_true rfl, Nat.le_of_ble_eq_true rfl⟩ (fun r399 ir399 Fr399 Gr399 _ locs hp hH hS => ?_)
                        obtain ⟨hu, h01r399⟩ := hp
                        cases hu
                        refine lv_if_eq (pc := 103) (tgt := 123) C0.1 C0.2.1 dX10_isWritable_103 (by decide) (fun c400 => ?_) (fun c400 => ?_)
                        · have : Int32.toInt 0 = 0 := rfl
                          have c400 := congrArg Int32.toInt c400
                          refine lv_aload_n (pc := 123) C0.1 C0.2.1 dX10_isWritable_123 rfl (lv_at hl 4 rfl) ?_
                          refine xget (pc := 124) C0 hH 78 49 clX10 ⟨Nat.le_of_ble_eq_true rfl, Nat.le_of_ble_eq_true rfl⟩ ⟨rfl, rfl⟩ (Nat.le_of_ble_eq_true rfl) fl_X10_115 (v := .ref (b + 112)) rfl dX10_isWritable_124 ?_
                          refine lv_iload_n (pc := 127) C0.1 C0.2.1 dX10_isWritable_127 rfl (lv_at hl 2 rfl) ?_
                          refine xiald (pc := 128) (N := 1802) C0 hH 112 ⟨Nat.le_of_ble_eq_true rfl, Nat.le_of_ble_eq_true rfl⟩ ⟨rfl, rfl⟩ (vI (by omega) (by omega)) dX10_isWritable_128 ?_
                          refine lv_topi (fun x401 ex401 => ?_)
                          refine lv_istore_n (pc := 129) (lv' := [(3, .int x401), (2, .int 0), (4, .int x303), (1, .int k), (0, .ref (b + 78))]) C0.1 C0.2.1 dX10_isWritable_129 rfl hl (by decide) rfl (fun ls hl => ?_)
                          refine lv_goto (pc := 130) (tgt := 19) C0.1 C0.2.1 dX10_isWritable_130 (by decide) ?_
                          exact ih19 0 x401 _ _ _ (by have q0 := hR.2.1; unfold okN at q0; rw [← show x401 = F 112 (cl p_) from ex401] at q0; rcases q0 with q | q; exact Or.inl q.1; exact Or.inr ⟨⟨by have := q.1; omega, by have := q.1; omega⟩, by have := q.1; omega⟩) g2 hH hS (lv_sub hl [0, 1, 3, 4] rfl)
                        · have : Int32.toInt 0 = 0 := rfl
                          have c400 : ¬ _ := fun q => c400 (Int32.toInt_inj.mp q)
                          refine lv_aload_n (pc := 106) C0.1 C0.2.1 dX10_isWritable_106 rfl (lv_at hl 4 rfl) ?_
                          refine xget (pc := 107) C0 hH 78 33 clX10 ⟨Nat.le_of_ble_eq_true rfl, Nat.le_of_ble_eq_true rfl⟩ ⟨rfl, rfl⟩ (Nat.le_of_ble_eq_true rfl) fl_X10_73 (v := .ref (b + 98)) rfl dX10_isWritable_107 ?_
                          refine lv_aload_n (pc := 110) C0.1 C0.2.1 dX10_isWritable_110 rfl (lv_at hl 4 rfl) ?_
                          refine xget (pc := 111) C0 hH 78 41 clX10 ⟨Nat.le_of_ble_eq_true rfl, Nat.le_of_ble_eq_true rfl⟩ ⟨rfl, rfl⟩ (Nat.le_of_ble_eq_true rfl) fl_X10_94 (v := .ref (b + 105)) rfl dX10_isWritable_111 ?_
                          refine lv_iload_n (pc := 114) C0.1 C0.2.1 dX10_isWritable_114 rfl (lv_at hl 3 rfl) ?_
                          refine xiald (pc := 115) (N := 1202) C0 hH 105 ⟨Nat.le_of_ble_eq_true rfl, Nat.le_of_ble_eq_true rfl⟩ ⟨rfl, rfl⟩ (vI (by omega) (by omega)) dX10_isWritable_115 ?_
                          refine xiald (pc := 116) (N := 1202) C0 hH 98 ⟨Nat.le_of_ble_eq_true rfl, Nat.le_of_ble_eq_true rfl⟩ ⟨rfl, rfl⟩ (vI (hWA.ib _).1 (hWA.ib _).2) dX10_isWritable_116 ?_
                          refine lv_iconst (pc := 117) (v := 4) C0.1 C0.2.1 dX10_isWritable_117 (by decide) ?_
                          refine lv_icmp_ne (pc := 118) (tgt := 123) C0.1 C0.2.1 dX10_isWritable_118 (by decide) (fun c402 => ?_) (fun c402 => ?_)
                          · have : Int32.toInt 4 = 4 := rfl
                            have c402 : ¬ _ := fun q => c402 (Int32.toInt_inj.mp q)
                            refine lv_aload_n (pc := 123) C0.1 C0.2.1 dX10_isWritable_123 rfl (lv_at hl 4 rfl) ?_
                            refine xget (pc := 124) C0 hH 78 49 clX10 ⟨Nat.le_of_ble_eq_true rfl, Nat.le_of_ble_eq_true rfl⟩ ⟨rfl, rfl⟩ (Nat.le_of_ble_eq_true rfl) fl_X10_115 (v := .ref (b + 112)) rfl dX10_isWritable_124 ?_
                            refine lv_iload_n (pc := 127) C0.1 C0.2.1 dX10_isWritable_127 rfl (lv_at hl 2 rfl) ?_
                            refine xiald (pc := 128) (N := 1802) C0 hH 112 ⟨Nat.le_of_ble_eq_true rfl, Nat.le_of_ble_eq_true rfl⟩ ⟨rfl, rfl⟩ (vI (by omega) (by omega)) dX10_isWritable_128 ?_
                            refine lv_topi (fun x403 ex403 => ?_)
                            refine lv_istore_n (pc := 129) (lv' := [(3, .int x403), (2, .int 0), (4, .int x303), (1, .int k), (0, .ref (b + 78))]) C0.1 C0.2.1 dX10_isWritable_129 rfl hl (by decide) rfl (fun ls hl => ?_)
                            refine lv_goto (pc := 130) (tgt := 19) C0.1 C0.2.1 dX10_isWritable_130 (by decide) ?_
                            exact ih19 0 x403 _ _ _ (by have q0 := hR.2.1; unfold okN at q0; rw [← show x403 = F 112 (cl p_) from ex403] at q0; rcases q0 with q | q; exact Or.inl q.1; exact Or.inr ⟨⟨by have := q.1; omega, by have := q.1; omega⟩, by have := q.1; omega⟩) g2 hH hS (lv_sub hl [0, 1, 3, 4] rfl)
                          · have : Int32.toInt 4 = 4 := rfl
                            have c402 := congrArg Int32.toInt c402
                            refine lv_iconst (pc := 121) (v := 0) C0.1 C0.2.1 dX10_isWritable_121 (by decide) ?_
                            exact xzret (pc := 122) C0 hr hH hS dX10_isWritable_122 (by decide) ⟨rfl, by decide⟩
                    · have : Int32.toInt 0 = 0 := rfl
                      have c395 : ¬ _ := fun q => c395 (Int32.toInt_inj.mp q)
                      refine lv_aload_n (pc := 70) C0.1 C0.2.1 dX10_isWritable_70 rfl (lv_at hl 4 rfl) ?_
                      refine xget (pc := 71) C0 hH 78 37 clX10 ⟨Nat.le_of_ble_eq_true rfl, Nat.le_of_ble_eq_true rfl⟩ ⟨rfl, rfl⟩ (Nat.le_of_ble_eq_true rfl) fl_X10_85 (v := .ref (b + 102)) rfl dX10_isWritable_71 ?_
                      refine lv_bipush (pc := 74) (v := (-100)) C0.1 C0.2.1 dX10_isWritable_74 (by decide) ?_
                      refine lv_iload (pc := 76) C0.1 C0.2.1 dX10_isWritable_76 (lv_at hl 0 rfl) ?_
                      have : Int32.toInt (-100) = (-100) := rfl
                      refine lv_isub (pc := 78) C0.1 C0.2.1 dX10_isWritable_78 ?_
                      refine lv_topi (fun x404 ex404 => ?_)
                      have hx404 : Int32.toInt x404 = Int32.toInt (-100) - Int32.toInt x303 := by rw [ex404]; exact fb_subI (by omega) (by omega)
                      refine xiald (pc := 79) (N := 1202) C0 hH 102 ⟨Nat.le_of_ble_eq_true rfl, Nat.le_of_ble_eq_true rfl⟩ ⟨rfl, rfl⟩ (vI (by omega) (by omega)) dX10_isWritable_79 ?_
                      refine lv_if_ne (pc := 80) (tgt := 87) C0.1 C0.2.1 dX10_isWritable_80 (by decide) (fun c405 => ?_) (fun c405 => ?_)
                      · have : Int32.toInt 0 = 0 := rfl
                        have c405 : ¬ _ := fun q => c405 (Int32.toInt_inj.mp q)
                        refine lv_iconst (pc := 87) (v := 0) C0.1 C0.2.1 dX10_isWritable_87 (by decide) ?_
                        refine lv_istore_n (pc := 88) (lv' := [(2, .int 0), (4, .int x303), (3, .int p_), (1, .int k), (0, .ref (b + 78))]) C0.1 C0.2.1 dX10_isWritable_88 rfl hl (by decide) rfl (fun ls hl => ?_)
                        refine lv_iload (pc := 89) C0.1 C0.2.1 dX10_isWritable_89 (lv_at hl 1 rfl) ?_
                        refine lv_if_ge (pc := 91) (tgt := 123) C0.1 C0.2.1 dX10_isWritable_91 (by decide) (fun c406 => ?_) (fun c406 => ?_)
                        · have : Int32.toInt 0 = 0 := rfl
                          have c406 := Int32.le_iff_toInt_le.mp c406
                          refine lv_aload_n (pc := 123) C0.1 C0.2.1 dX10_isWritable_123 rfl (lv_at hl 4 rfl) ?_
                          refine xget (pc := 124) C0 hH 78 49 clX10 ⟨Nat.le_of_ble_eq_true rfl, Nat.le_of_ble_eq_true rfl⟩ ⟨rfl, rfl⟩ (Nat.le_of_ble_eq_true rfl) fl_X10_115 (v := .ref (b + 112)) rfl dX10_isWritable_124 ?_
                          refine lv_iload_n (pc := 127) C0.1 C0.2.1 dX10_isWritable_127 rfl (lv_at hl 2 rfl) ?_
                          refine xiald (pc := 128) (N := 1802) C0 hH 112 ⟨Nat.le_of_ble_eq_true rfl, Nat.le_of_ble_eq_true rfl⟩ ⟨rfl, rfl⟩ (vI (by omega) (by omega)) dX10_isWritable_128 ?_
                          refine lv_topi (fun x407 ex407 => ?_)
                          refine lv_istore_n (pc := 129) (lv' := [(3, .int x407), (2, .int 0), (4, .int x303), (1, .int k), (0, .ref (b + 78))]) C0.1 C0.2.1 dX10_isWritable_129 rfl hl (by decide) rfl (fun ls hl => ?_)
                          refine lv_goto (pc := 130) (tgt := 19) C0.1 C0.2.1 dX10_isWritable_130 (by decide) ?_
                          exact ih19 0 x407 _ _ _ (by have q0 := hR.2.1; unfold okN at q0; rw [← show x407 = F 112 (cl p_) from ex407] at q0; rcases q0 with q | q; exact Or.inl q.1; exact Or.inr ⟨⟨by have := q.1; omega, by have := q.1; omega⟩, by have := q.1; omega⟩) g2 hH hS (lv_sub hl [0, 1, 3, 4] rfl)
                        · have : Int32.toInt 0 = 0 := rfl
                          have c406 : ¬ _ := fun q => c406 (Int32.le_iff_toInt_le.mpr q)
                          refine lv_aload_n (pc := 94) C0.1 C0.2.1 dX10_isWritable_94 rfl (lv_at hl 4 rfl) ?_
                          refine lv_bipush (pc := 95) (v := (-100)) C0.1 C0.2.1 dX10_isWritable_95 (by decide) ?_
                          refine lv_iload (pc := 97) C0.1 C0.2.1 dX10_isWritable_97 (lv_at hl 1 rfl) ?_
                          have : Int32.toInt (-100) = (-100) := rfl
                          refine lv_isub (pc := 99) C0.1 C0.2.1 dX10_isWritable_99 ?_
                          refine lv_topi (fun x408 ex408 => ?_)
                          have hx408 : Int32.toInt x408 = Int32.toInt (-100) - Int32.toInt x303 := by rw [ex408]; exact fb_subI (by omega) (by omega)
                          refine xcVI (pc := 100) 78 [.int x408] (m_isStanding l D tA b i F G x408 (show 0 ≤ Int32.toInt x408 ∧ Int32.toInt x408 < 1202 from by omega)) C0 hH hS clX10 rfl ⟨⟨Nat.le_of_ble_eq_true rfl, Nat.le_of_ble_eq_true rfl⟩, rfl, rfl⟩ cw_X10_387 rfl ⟨Nat.le_of_ble_eq_true rfl, Nat.le_of_ble_eq_true rfl⟩ hl.1 rfl (Nat.le_of_ble_eq_true rfl) dX10_isWritable_100 ⟨Nat.le_of_ble_eq_true rfl, Nat.le_of_ble_eq_true rfl⟩ (fun r409 ir409 Fr409 Gr409 _ locs hp hH hS => ?_)
                          obtain ⟨hu, h01r409⟩ := hp
                          cases hu
                          refine lv_if_eq (pc := 103) (tgt := 123) C0.1 C0.2.1 dX10_isWritable_103 (by decide) (fun c410 => ?_) (fun c410 => ?_)
                          · have : Int32.toInt 0 = 0 := rfl
                            have c410 := congrArg Int32.toInt c410
                            refine lv_aload_n (pc := 123) C0.1 C0.2.1 dX10_isWritable_123 rfl (lv_at hl 4 rfl) ?_
                            refine xget (pc := 124) C0 hH 78 49 clX10 ⟨Nat.le_of_ble_eq_true rfl, Nat.le_of_ble_eq_true rfl⟩ ⟨rfl, rfl⟩ (Nat.le_of_ble_eq_true rfl) fl_X10_115 (v := .ref (b + 112)) rfl dX10_isWritable_124 ?_
                            refine lv_iload_n (pc := 127) C0.1 C0.2.1 dX10_isWritable_127 rfl (lv_at hl 2 rfl) ?_
                            refine xiald (pc := 128) (N := 1802) C0 hH 112 ⟨Nat.le_of_ble_eq_true rfl, Nat.le_of_ble_eq_true rfl⟩ ⟨rfl, rfl⟩ (vI (by omega) (by omega)) dX10_isWritable_128 ?_
                            refine lv_topi (fun x411 ex411 => ?_)
                            refine lv_istore_n (pc := 129) (lv' := [(3, .int x411), (2, .int 0), (4, .int x303), (1, .int k), (0, .ref (b + 78))]) C0.1 C0.2.1 dX10_isWritable_129 rfl hl (by decide) rfl (fun ls hl => ?_)
                            refine lv_goto (pc := 130) (tgt := 19) C0.1 C0.2.1 dX10_isWritable_130 (by decide) ?_
                            exact ih19 0 x411 _ _ _ (by have q0 := hR.2.1; unfold okN at q0; rw [← show x411 = F 112 (cl p_) from ex411] at q0; rcases q0 with q | q; exact Or.inl q.1; exact Or.inr ⟨⟨by have := q.1; omega, by have := q.1; omega⟩, by have := q.1; omega⟩) g2 hH hS (lv_sub hl [0, 1, 3, 4] rfl)
                          · have : Int32.toInt 0 = 0 := rfl
                            have c410 : ¬ _ := fun q => c410 (Int32.toInt_inj.mp q)
                            refine lv_aload_n (pc := 106) C0.1 C0.2.1 dX10_isWritable_106 rfl (lv_at hl 4 rfl) ?_
                            refine xget (pc := 107) C0 hH 78 33 clX10 ⟨Nat.le_of_ble_eq_true rfl, Nat.le_of_ble_eq_true rfl⟩ ⟨rfl, rfl⟩ (Nat.le_of_ble_eq_true rfl) fl_X10_73 (v := .ref (b + 98)) rfl dX10_isWritable_107 ?_
                            refine lv_aload_n (pc := 110) C0.1 C0.2.1 dX10_isWritable_110 rfl (lv_at hl 4 rfl) ?_
                            refine xget (pc := 111) C0 hH 78 41 clX10 ⟨Nat.le_of_ble_eq_true rfl, Nat.le_of_ble_eq_true rfl⟩ ⟨rfl, rfl⟩ (Nat.le_of_ble_eq_true rfl) fl_X10_94 (v := .ref (b + 105)) rfl dX10_isWritable_111 ?_
                            refine lv_iload_n (pc := 114) C0.1 C0.2.1 dX10_isWritable_114 rfl (lv_at hl 3 rfl) ?_
                            refine xiald (pc := 115) (N := 1202) C0 hH 105 ⟨Nat.le_of_ble_eq_true rfl, Nat.le_of_ble_eq_true rfl⟩ ⟨rfl, rfl⟩ (vI (by omega) (by omega)) dX10_isWritable_115 ?_
                            refine xiald (pc := 116) (N := 1202) C0 hH 98 ⟨Nat.le_of_ble_eq_true rfl, Nat.le_of_ble_eq_true rfl⟩ ⟨rfl, rfl⟩ (vI (hWA.ib _).1 (hWA.ib _).2) dX10_isWritable_116 ?_
                            refine lv_iconst (pc := 117) (v := 4) C0.1 C0.2.1 dX10_isWritable_117 (by decide) ?_
                            refine lv_icmp_ne (pc := 118) (tgt := 123) C0.1 C0.2.1 dX10_isWritable_118 (by decide) (fun c412 => ?_) (fun c412 => ?_)
                            · have : Int32.toInt 4 = 4 := rfl
                              have c412 : ¬ _ := fun q => c412 (Int32.toInt_inj.mp q)
                              refine lv_aload_n (pc := 123) C0.1 C0.2.1 dX10_isWritable_123 rfl (lv_at hl 4 rfl) ?_
                              refine xget (pc := 124) C0 hH 78 49 clX10 ⟨Nat.le_of_ble_eq_true rfl, Nat.le_of_ble_eq_true rfl⟩ ⟨rfl, rfl⟩ (Nat.le_of_ble_eq_true rfl) fl_X10_115 (v := .ref (b + 112)) rfl dX10_isWritable_124 ?_
                              refine lv_iload_n (pc := 127) C0.1 C0.2.1 dX10_isWritable_127 rfl (lv_at hl 2 rfl) ?_
                              refine xiald (pc := 128) (N := 1802) C0 hH 112 ⟨Nat.le_of_ble_eq_true rfl, Nat.le_of_ble_eq_true rfl⟩ ⟨rfl, rfl⟩ (vI (by omega) (by omega)) dX10_isWritable_128 ?_
                              refine lv_topi (fun x413 ex413 => ?_)
                              refine lv_istore_n (pc := 129) (lv' := [(3, .int x413), (2, .int 0), (4, .int x303), (1, .int k), (0, .ref (b + 78))]) C0.1 C0.2.1 dX10_isWritable_129 rfl hl (by decide) rfl (fun ls hl => ?_)
                              refine lv_goto (pc := 130) (tgt := 19) C0.1 C0.2.1 dX10_isWritable_130 (by decide) ?_
                              exact ih19 0 x413 _ _ _ (by have q0 := hR.2.1; unfold okN at q0; rw [← show x413 = F 112 (cl p_) from ex413] at q0; rcases q0 with q | q; exact Or.inl q.1; exact Or.inr ⟨⟨by have := q.1; omega, by have := q.1; omega⟩, by have := q.1; omega⟩) g2 hH hS (lv_sub hl [0, 1, 3, 4] rfl)
                            · have : Int32.toInt 4 = 4 := rfl
                              have c412 := congrArg Int32.toInt c412
                              refine lv_iconst (pc := 121) (v := 0) C0.1 C0.2.1 dX10_isWritable_121 (by decide) ?_
                              exact xzret (pc := 122) C0 hr hH hS dX10_isWritable_122 (by decide) ⟨rfl, by decide⟩
                      · have : Int32.toInt 0 = 0 := rfl
                        have c405 := congrArg Int32.toInt c405
                        refine lv_iconst (pc := 83) (v := 1) C0.1 C0.2.1 dX10_isWritable_83 (by decide) ?_
                        refine lv_goto (pc := 84) (tgt := 88) C0.1 C0.2.1 dX10_isWritable_84 (by decide) ?_
                        refine lv_istore_n (pc := 88) (lv' := [(2, .int 1), (4, .int x303), (3, .int p_), (1, .int k), (0, .ref (b + 78))]) C0.1 C0.2.1 dX10_isWritable_88 rfl hl (by decide) rfl (fun ls hl => ?_)
                        refine lv_iload (pc := 89) C0.1 C0.2.1 dX10_isWritable_89 (lv_at hl 1 rfl) ?_
                        refine lv_if_ge (pc := 91) (tgt := 123) C0.1 C0.2.1 dX10_isWritable_91 (by decide) (fun c414 => ?_) (fun c414 => ?_)
                        · have : Int32.toInt 0 = 0 := rfl
                          have c414 := Int32.le_iff_toInt_le.mp c414
                          refine lv_aload_n (pc := 123) C0.1 C0.2.1 dX10_isWritable_123 rfl (lv_at hl 4 rfl) ?_
                          refine xget (pc := 124) C0 hH 78 49 clX10 ⟨Nat.le_of_ble_eq_true rfl, Nat.le_of_ble_eq_true rfl⟩ ⟨rfl, rfl⟩ (Nat.le_of_ble_eq_true rfl) fl_X10_115 (v := .ref (b + 112)) rfl dX10_isWritable_124 ?_
                          refine lv_iload_n (pc := 127) C0.1 C0.2.1 dX10_isWritable_127 rfl (lv_at hl 2 rfl) ?_
                          refine xiald (pc := 128) (N := 1802) C0 hH 112 ⟨Nat.le_of_ble_eq_true rfl, Nat.le_of_ble_eq_true rfl⟩ ⟨rfl, rfl⟩ (vI (by omega) (by omega)) dX10_isWritable_128 ?_
                          refine lv_topi (fun x415 ex415 => ?_)
                          refine lv_istore_n (pc := 129) (lv' := [(3, .int x415), (2, .int 1), (4, .int x303), (1, .int k), (0, .ref (b + 78))]) C0.1 C0.2.1 dX10_isWritable_129 rfl hl (by decide) rfl (fun ls hl => ?_)
                          refine lv_goto (pc := 130) (tgt := 19) C0.1 C0.2.1 dX10_isWritable_130 (by decide) ?_
                          exact ih19 1 x415 _ _ _ (by have q0 := hR.2.1; unfold okN at q0; rw [← show x415 = F 112 (cl p_) from ex415] at q0; rcases q0 with q | q; exact Or.inl q.1; exact Or.inr ⟨⟨by have := q.1; omega, by have := q.1; omega⟩, by have := q.1; omega⟩) g2 hH hS (lv_sub hl [0, 1, 3, 4] rfl)
                        · have : Int32.toInt 0 = 0 := rfl
                          have c414 : ¬ _ := fun q => c414 (Int32.le_iff_toInt_le.mpr q)
                          refine lv_aload_n (pc := 94) C0.1 C0.2.1 dX10_isWritable_94 rfl (lv_at hl 4 rfl) ?_
                          refine lv_bipush (pc := 95) (v := (-100)) C0.1 C0.2.1 dX10_isWritable_95 (by decide) ?_
                          refine lv_iload (pc := 97) C0.1 C0.2.1 dX10_isWritable_97 (lv_at hl 1 rfl) ?_
                          have : Int32.toInt (-100) = (-100) := rfl
                          refine lv_isub (pc := 99) C0.1 C0.2.1 dX10_isWritable_99 ?_
                          refine lv_topi (fun x416 ex416 => ?_)
                          have hx416 : Int32.toInt x416 = Int32.toInt (-100) - Int32.toInt x303 := by rw [ex416]; exact fb_subI (by omega) (by omega)
                          refine xcVI (pc := 100) 78 [.int x416] (m_isStanding l D tA b i F G x416 (show 0 ≤ Int32.toInt x416 ∧ Int32.toInt x416 < 1202 from by omega)) C0 hH hS clX10 rfl ⟨⟨Nat.le_of_ble_eq_true rfl, Nat.le_of_ble_eq_true rfl⟩, rfl, rfl⟩ cw_X10_387 rfl ⟨Nat.le_of_ble_eq_true rfl, Nat.le_of_ble_eq_true rfl⟩ hl.1 rfl (Nat.le_of_ble_eq_true rfl) dX10_isWritable_100 ⟨Nat.le_of_ble_eq_true rfl, Nat.le_of_ble_eq_true rfl⟩ (fun r417 ir417 Fr417 Gr417 _ locs hp hH hS => ?_)
                          obtain ⟨hu, h01r417⟩ := hp
                          cases hu
                          refine lv_if_eq (pc := 103) (tgt := 123) C0.1 C0.2.1 dX10_isWritable_103 (by decide) (fun c418 => ?_) (fun c418 => ?_)
                          · have : Int32.toInt 0 = 0 := rfl
                            have c418 := congrArg Int32.toInt c418
                            refine lv_aload_n (pc := 123) C0.1 C0.2.1 dX10_isWritable_123 rfl (lv_at hl 4 rfl) ?_
                            refine xget (pc := 124) C0 hH 78 49 clX10 ⟨Nat.le_of_ble_eq_true rfl, Nat.le_of_ble_eq_true rfl⟩ ⟨rfl, rfl⟩ (Nat.le_of_ble_eq_true rfl) fl_X10_115 (v := .ref (b + 112)) rfl dX10_isWritable_124 ?_
                            refine lv_iload_n (pc := 127) C0.1 C0.2.1 dX10_isWritable_127 rfl (lv_at hl 2 rfl) ?_
                            refine xiald (pc := 128) (N := 1802) C0 hH 112 ⟨Nat.le_of_ble_eq_true rfl, Nat.le_of_ble_eq_true rfl⟩ ⟨rfl, rfl⟩ (vI (by omega) (by omega)) dX10_isWritable_128 ?_
                            refine lv_topi (fun x419 ex419 => ?_)
                            refine lv_istore_n (pc := 129) (lv' := [(3, .int x419), (2, .int 1), (4, .int x303), (1, .int k), (0, .ref (b + 78))]) C0.1 C0.2.1 dX10_isWritable_129 rfl hl (by decide) rfl (fun ls hl => ?_)
                            refine lv_goto (pc := 130) (tgt := 19) C0.1 C0.2.1 dX10_isWritable_130 (by decide) ?_
                            exact ih19 1 x419 _ _ _ (by have q0 := hR.2.1; unfold okN at q0; rw [← show x419 = F 112 (cl p_) from ex419] at q0; rcases q0 with q | q; exact Or.inl q.1; exact Or.inr ⟨⟨by have := q.1; omega, by have := q.1; omega⟩, by have := q.1; omega⟩) g2 hH hS (lv_sub hl [0, 1, 3, 4] rfl)
                          · have : Int32.toInt 0 = 0 := rfl
                            have c418 : ¬ _ := fun q => c418 (Int32.toInt_inj.mp q)
                            refine lv_aload_n (pc := 106) C0.1 C0.2.1 dX10_isWritable_106 rfl (lv_at hl 4 rfl) ?_
                            refine xget (pc := 107) C0 hH 78 33 clX10 ⟨Nat.le_of_ble_eq_true rfl, Nat.le_of_ble_eq_true rfl⟩ ⟨rfl, rfl⟩ (Nat.le_of_ble_eq_true rfl) fl_X10_73 (v := .ref (b + 98)) rfl dX10_isWritable_107 ?_
                            refine lv_aload_n (pc := 110) C0.1 C0.2.1 dX10_isWritable_110 rfl (lv_at hl 4 rfl) ?_
                            refine xget (pc := 111) C0 hH 78 41 clX10 ⟨Nat.le_of_ble_eq_true rfl, Nat.le_of_ble_eq_true rfl⟩ ⟨rfl, rfl⟩ (Nat.le_of_ble_eq_true rfl) fl_X10_94 (v := .ref (b + 105)) rfl dX10_isWritable_111 ?_
                            refine lv_iload_n (pc := 114) C0.1 C0.2.1 dX10_isWritable_114 rfl (lv_at hl 3 rfl) ?_
                            refine xiald (pc := 115) (N := 1202) C0 hH 105 ⟨Nat.le_of_ble_eq_true rfl, Nat.le_of_ble_eq_true rfl⟩ ⟨rfl, rfl⟩ (vI (by omega) (by omega)) dX10_isWritable_115 ?_
                            refine xiald (pc := 116) (N := 1202) C0 hH 98 ⟨Nat.le_of_ble_eq_true rfl, Nat.le_of_ble_eq_true rfl⟩ ⟨rfl, rfl⟩ (vI (hWA.ib _).1 (hWA.ib _).2) dX10_isWritable_116 ?_
                            refine lv_iconst (pc := 117) (v := 4) C0.1 C0.2.1 dX10_isWritable_117 (by decide) ?_
                            refine lv_icmp_ne (pc := 118) (tgt := 123) C0.1 C0.2.1 dX10_isWritable_118 (by decide) (fun c420 => ?_) (fun c420 => ?_)
                            · have : Int32.toInt 4 = 4 := rfl
                              have c420 : ¬ _ := fun q => c420 (Int32.toInt_inj.mp q)
                              refine lv_aload_n (pc := 123) C0.1 C0.2.1 dX10_isWritable_123 rfl (lv_at hl 4 rfl) ?_
                              refine xget (pc := 124) C0 hH 78 49 clX10 ⟨Nat.le_of_ble_eq_true rfl, Nat.le_of_ble_eq_true rfl⟩ ⟨rfl, rfl⟩ (Nat.le_of_ble_eq_true rfl) fl_X10_115 (v := .ref (b + 112)) rfl dX10_isWritable_124 ?_
                              refine lv_iload_n (pc := 127) C0.1 C0.2.1 dX10_isWritable_127 rfl (lv_at hl 2 rfl) ?_
                              refine xiald (pc := 128) (N := 1802) C0 hH 112 ⟨Nat.le_of_ble_eq_true rfl, Nat.le_of_ble_eq_true rfl⟩ ⟨rfl, rfl⟩ (vI (by omega) (by omega)) dX10_isWritable_128 ?_
                              refine lv_topi (fun x421 ex421 => ?_)
                              refine lv_istore_n (pc := 129) (lv' := [(3, .int x421), (2, .int 1), (4, .int x303), (1, .int k), (0, .ref (b + 78))]) C0.1 C0.2.1 dX10_isWritable_129 rfl hl (by decide) rfl (fun ls hl => ?_)
                              refine lv_goto (pc := 130) (tgt := 19) C0.1 C0.2.1 dX10_isWritable_130 (by decide) ?_
                              exact ih19 1 x421 _ _ _ (by have q0 := hR.2.1; unfold okN at q0; rw [← show x421 = F 112 (cl p_) from ex421] at q0; rcases q0 with q | q; exact Or.inl q.1; exact Or.inr ⟨⟨by have := q.1; omega, by have := q.1; omega⟩, by have := q.1; omega⟩) g2 hH hS (lv_sub hl [0, 1, 3, 4] rfl)
                            · have : Int32.toInt 4 = 4 := rfl
                              have c420 := congrArg Int32.toInt c420
                              refine lv_iconst (pc := 121) (v := 0) C0.1 C0.2.1 dX10_isWritable_121 (by decide) ?_
                              exact xzret (pc := 122) C0 hr hH hS dX10_isWritable_122 (by decide) ⟨rfl, by decide⟩
                · have : Int32.toInt 0 = 0 := rfl
                  have c383 := congrArg Int32.toInt c383
                  refine lv_iconst (pc := 51) (v := 0) C0.1 C0.2.1 dX10_isWritable_51 (by decide) ?_
                  exact xzret (pc := 52) C0 hr hH hS dX10_isWritable_52 (by decide) ⟨rfl, by decide⟩
      refine lv_iload_n (pc := 2) C0.1 C0.2.1 dX10_isWritable_2 rfl (lv_at hl 0 rfl) ?_
      refine lv_aload_n (pc := 3) C0.1 C0.2.1 dX10_isWritable_3 rfl (lv_at hl 1 rfl) ?_
      refine xget (pc := 4) C0 hH 78 40 clX10 ⟨Nat.le_of_ble_eq_true rfl, Nat.le_of_ble_eq_true rfl⟩ ⟨rfl, rfl⟩ (Nat.le_of_ble_eq_true rfl) fl_X10_287 (v := .int (i 78 40)) rfl dX10_isWritable_4 ?_
      refine lv_icmp_ge (pc := 7) (tgt := 139) C0.1 C0.2.1 dX10_isWritable_7 (by decide) (fun c201 => ?_) (fun c201 => ?_)
      · have c201 := Int32.le_iff_toInt_le.mp c201
        refine lv_iconst (pc := 139) (v := 1) C0.1 C0.2.1 dX10_isWritable_139 (by decide) ?_
        exact xzret (pc := 140) C0 hr hH hS dX10_isWritable_140 (by decide) ⟨rfl, by decide⟩
      · have c201 : ¬ _ := fun q => c201 (Int32.le_iff_toInt_le.mpr q)
        refine lv_iconst (pc := 10) (v := 0) C0.1 C0.2.1 dX10_isWritable_10 (by decide) ?_
        refine lv_istore_n (pc := 11) (lv' := [(2, .int 0), (1, .int k), (0, .ref (b + 78))]) C0.1 C0.2.1 dX10_isWritable_11 rfl hl (by decide) rfl (fun ls hl => ?_)
        refine lv_aload_n (pc := 12) C0.1 C0.2.1 dX10_isWritable_12 rfl (lv_at hl 2 rfl) ?_
        refine xget (pc := 13) C0 hH 78 45 clX10 ⟨Nat.le_of_ble_eq_true rfl, Nat.le_of_ble_eq_true rfl⟩ ⟨rfl, rfl⟩ (Nat.le_of_ble_eq_true rfl) fl_X10_106 (v := .ref (b + 109)) rfl dX10_isWritable_13 ?_
        refine lv_iload_n (pc := 16) C0.1 C0.2.1 dX10_isWritable_16 rfl (lv_at hl 1 rfl) ?_
        refine xiald (pc := 17) (N := 1202) C0 hH 109 ⟨Nat.le_of_ble_eq_true rfl, Nat.le_of_ble_eq_true rfl⟩ ⟨rfl, rfl⟩ (vI (by omega) (by omega)) dX10_isWritable_17 ?_
        refine lv_topi (fun x202 ex202 => ?_)
        refine lv_istore_n (pc := 18) (lv' := [(3, .int x202), (2, .int 0), (1, .int k), (0, .ref (b + 78))]) C0.1 C0.2.1 dX10_isWritable_18 rfl hl (by decide) rfl (fun ls hl => ?_)
        exact L19 1802 0 x202 _ _ _ (by have q0 := hTO.2.2.2.2.1 (Int32.toNatClampNeg k) (by have := clI (x := k) (by omega); omega); unfold okQ at q0; rw [← show x202 = F 109 (Int32.toNatClampNeg k) from ex202] at q0; rcases q0 with q | q; exact Or.inl q.2.1; exact Or.inr ⟨q.2.1, by have := q.2.1; omega⟩) (by omega) hH hS (lv_sub hl [0, 1, 2, 3] rfl)
  refine lv_iconst (pc := 0) (v := 0) C0.1 C0.2.1 dX10_isWritable_0 (by decide) ?_
  refine lv_istore_n (pc := 1) (lv' := [(1, .int 0), (0, .ref (b + 78))]) C0.1 C0.2.1 dX10_isWritable_1 rfl hl (by decide) rfl (fun ls hl => ?_)
  exact L2 1202 0 _ _ _ (by decide) (by have : Int32.toInt 0 = 0 := rfl; omega) hH hS (lv_sub hl [0, 1] rfl)
set_option maxHeartbeats 4000000 in
set_option maxRecDepth 100000 in
theorem m_beginLine (l : Launch) (D : va_G) (tA : Nat → ClassId) (b : Nat) (i F : Nat → Nat → Int32) (G : Nat → Nat → Int64) (x : Int32) (hds : 0 ≤ (i 78 56).toInt ∧ (i 78 56).toInt ≤ 1500000000) (hx : 0 ≤ x.toInt ∧ x.toInt ≤ 200000) : xMV l yX10_beginLine cX10_beginLine 3 none 1 21 D tA b 78 52 i F G [.ref (b + 78), .int x] (fun u => RO [56, 64, 65] [115] i F G u ∧ ((i 78 56).toInt ≤ (u.1 78 56).toInt ∧ (u.1 78 56).toInt ≤ (i 78 56).toInt + 1 + x.toInt) ∧ u.1 78 64 = x) := by
  refine xstart RX10 rfl (by decide) (Nat.le_of_ble_eq_true rfl) ?_
  intro p e s m below meth c ls C0 hr hH hS hl
  have hl : lv_has ls 3 [(0, .ref (b + 78)), (1, .int x)] := hl
  have rg_x := fb_rng x
  have L15 : ∀ (d : Nat) (k : Int32) (iv Fv : Nat → Nat → Int32) (Gv : Nat → Nat → Int64) (H : Heap) (locs : List Loc) (ls : Array Slot), (0 ≤ k.toInt ∧ k.toInt ≤ x.toInt) → (x.toInt - k.toInt ≤ d) → (RO [56] [115] i F G (iv, Fv, Gv)) → ((i 78 56).toInt ≤ (iv 78 56).toInt ∧ (iv 78 56).toInt ≤ (i 78 56).toInt + 1 + k.toInt) → Hd D tA b 78 52 zz iv Fv Gv H → va_S (xA b 78 52) s.heap H locs → lv_has ls 3 [(2, .int k), (0, .ref (b + 78)), (1, .int x)] → W p l e (xR 1 21) s m ([.ref (b + 78), .int x] : List Value).toArray below meth c H locs 0 0 (MQ below (va_Qv (fun u => RO [56, 64, 65] [115] i F G u ∧ ((i 78 56).toInt ≤ (u.1 78 56).toInt ∧ (u.1 78 56).toInt ≤ (i 78 56).toInt + 1 + x.toInt) ∧ u.1 78 64 = x) (xB D tA b 78 52 zz) (xA b 78 52)) ([.ref (b + 78), .int x] : List Value).toArray s 0 0 (xA b 78 52)) (F0 m 15 ls []) := by
    intro d
    induction d with
    | zero =>
      intro k iv Fv Gv H locs ls h1 h2 h3 h4 hH hS hl
      have rg_k := fb_rng k
      refine lv_iload_n (pc := 15) C0.1 C0.2.1 dX10_beginLine_15 rfl (lv_at hl 0 rfl) ?_
      refine lv_iload_n (pc := 16) C0.1 C0.2.1 dX10_beginLine_16 rfl (lv_at hl 2 rfl) ?_
      refine lv_icmp_ge (pc := 17) (tgt := 32) C0.1 C0.2.1 dX10_beginLine_17 (by decide) (fun _ => ?_) (fun c => absurd (Int32.le_iff_toInt_le.mpr (by omega)) c)
      refine lv_aload_n (pc := 32) C0.1 C0.2.1 dX10_beginLine_32 rfl (lv_at hl 1 rfl) ?_
      refine lv_iload_n (pc := 33) C0.1 C0.2.1 dX10_beginLine_33 rfl (lv_at hl 2 rfl) ?_
      refine xputI (pc := 34) C0 (Nat.le_of_ble_eq_true rfl) hH hS 78 64 clX10 ⟨Nat.le_of_ble_eq_true rfl, Nat.le_of_ble_eq_true rfl⟩ ⟨rfl, rfl⟩ ⟨Nat.le_of_ble_eq_true rfl, rfl, rfl⟩ fl_X10_399 (x := x) ⟨rfl, rfl⟩ dX10_beginLine_34 (fun _ locs hH hS _ => ?_)
      have hH : Hd D tA b 78 52 zz (up2 iv 78 64 x) Fv Gv _ := hH
      refine lv_aload_n (pc := 37) C0.1 C0.2.1 dX10_beginLine_37 rfl (lv_at hl 1 rfl) ?_
      refine lv_iconst (pc := 38) (v := 1) C0.1 C0.2.1 dX10_beginLine_38 (by decide) ?_
      refine xputI (pc := 39) C0 (Nat.le_of_ble_eq_true rfl) hH hS 78 65 clX10 ⟨Nat.le_of_ble_eq_true rfl, Nat.le_of_ble_eq_true rfl⟩ ⟨rfl, rfl⟩ ⟨Nat.le_of_ble_eq_true rfl, rfl, rfl⟩ fl_X10_402 (x := 1) ⟨rfl, rfl⟩ dX10_beginLine_39 (fun _ locs hH hS _ => ?_)
      have hH : Hd D tA b 78 52 zz (up2 (up2 iv 78 64 x) 78 65 1) Fv Gv _ := hH
      exact xvret (pc := 42) C0 hr hH hS dX10_beginLine_42 ⟨(RO.i (RO.i (RO.tr RO.rf h3 (by decide) (by decide)) (by decide)) (by decide)), (show _ ≤ Int32.toInt (iv 78 56) ∧ Int32.toInt (iv 78 56) ≤ _ from by omega), rfl⟩
    | succ d ih15 =>
      intro k iv Fv Gv H locs ls h1 h2 h3 h4 hH hS hl
      have rg_k := fb_rng k
      refine lv_iload_n (pc := 15) C0.1 C0.2.1 dX10_beginLine_15 rfl (lv_at hl 0 rfl) ?_
      refine lv_iload_n (pc := 16) C0.1 C0.2.1 dX10_beginLine_16 rfl (lv_at hl 2 rfl) ?_
      refine lv_icmp_ge (pc := 17) (tgt := 32) C0.1 C0.2.1 dX10_beginLine_17 (by decide) (fun c201 => ?_) (fun c201 => ?_)
      · have c201 := Int32.le_iff_toInt_le.mp c201
        refine lv_aload_n (pc := 32) C0.1 C0.2.1 dX10_beginLine_32 rfl (lv_at hl 1 rfl) ?_
        refine lv_iload_n (pc := 33) C0.1 C0.2.1 dX10_beginLine_33 rfl (lv_at hl 2 rfl) ?_
        refine xputI (pc := 34) C0 (Nat.le_of_ble_eq_true rfl) hH hS 78 64 clX10 ⟨Nat.le_of_ble_eq_true rfl, Nat.le_of_ble_eq_true rfl⟩ ⟨rfl, rfl⟩ ⟨Nat.le_of_ble_eq_true rfl, rfl, rfl⟩ fl_X10_399 (x := x) ⟨rfl, rfl⟩ dX10_beginLine_34 (fun _ locs hH hS _ => ?_)
        have hH : Hd D tA b 78 52 zz (up2 iv 78 64 x) Fv Gv _ := hH
        refine lv_aload_n (pc := 37) C0.1 C0.2.1 dX10_beginLine_37 rfl (lv_at hl 1 rfl) ?_
        refine lv_iconst (pc := 38) (v := 1) C0.1 C0.2.1 dX10_beginLine_38 (by decide) ?_
        refine xputI (pc := 39) C0 (Nat.le_of_ble_eq_true rfl) hH hS 78 65 clX10 ⟨Nat.le_of_ble_eq_true rfl, Nat.le_of_ble_eq_true rfl⟩ ⟨rfl, rfl⟩ ⟨Nat.le_of_ble_eq_true rfl, rfl, rfl⟩ fl_X10_402 (x := 1) ⟨rfl, rfl⟩ dX10_beginLine_39 (fun _ locs hH hS _ => ?_)
        have hH : Hd D tA b 78 52 zz (up2 (up2 iv 78 64 x) 78 65 1) Fv Gv _ := hH
        exact xvret (pc := 42) C0 hr hH hS dX10_beginLine_42 ⟨(RO.i (RO.i (RO.tr RO.rf h3 (by decide) (by decide)) (by decide)) (by decide)), (show _ ≤ Int32.toInt (iv 78 56) ∧ Int32.toInt (iv 78 56) ≤ _ from by omega), rfl⟩
      · have c201 : ¬ _ := fun q => c201 (Int32.le_iff_toInt_le.mpr q)
        refine lv_aload_n (pc := 20) C0.1 C0.2.1 dX10_beginLine_20 rfl (lv_at hl 1 rfl) ?_
        refine lv_bipush (pc := 21) (v := 32) C0.1 C0.2.1 dX10_beginLine_21 (by decide) ?_
        refine xcVV (pc := 23) 78 [.int 32] (m_put l D tA b iv Fv Gv 32 (show 0 ≤ Int32.toInt (iv 78 56) ∧ Int32.toInt (iv 78 56) ≤ 2000000000 from by omega) ) C0 hH hS clX10 rfl ⟨⟨Nat.le_of_ble_eq_true rfl, Nat.le_of_ble_eq_true rfl⟩, rfl, rfl⟩ cw_X10_372 rfl ⟨Nat.le_of_ble_eq_true rfl, Nat.le_of_ble_eq_true rfl⟩ hl.1 rfl (Nat.le_of_ble_eq_true rfl) dX10_beginLine_23 ⟨Nat.le_of_ble_eq_true rfl, Nat.le_of_ble_eq_true rfl⟩ (fun ir202 Fr202 Gr202 _ locs hp hH hS => ?_)
        obtain ⟨honr202, hdsr202⟩ := hp
        have hdsr202 : Int32.toInt (iv 78 56) ≤ (ir202 78 56).toInt ∧ (ir202 78 56).toInt ≤ Int32.toInt (iv 78 56) + 1 := hdsr202
        obtain ⟨x203, ex203⟩ : ∃ y_ : Int32, y_ = k + 1 := ⟨_, rfl⟩
        have : Int32.toInt 1 = 1 := rfl
        have hx203 : Int32.toInt x203 = Int32.toInt k + Int32.toInt 1 := by rw [ex203]; exact fb_addI (by omega) (by omega)
        refine lv_iinc (pc := 26) (v := x203) (lv' := [(2, .int x203), (0, .ref (b + 78)), (1, .int x)]) C0.1 C0.2.1 dX10_beginLine_26 hl (k := 0) rfl (by rw [ex203]; rfl) (by decide) rfl (fun ls hl => ?_)
        refine lv_goto (pc := 29) (tgt := 15) C0.1 C0.2.1 dX10_beginLine_29 (by decide) ?_
        exact ih15 x203 ir202 Fr202 Gr202 _ _ _ (by omega) (by omega) (RO.tr (RO.tr RO.rf h3 (by decide) (by decide)) honr202 (by decide) (by decide)) (by omega) hH hS (lv_sub hl [0, 1, 2] rfl)
  refine lv_aload_n (pc := 0) C0.1 C0.2.1 dX10_beginLine_0 rfl (lv_at hl 0 rfl) ?_
  refine xget (pc := 1) C0 hH 78 56 clX10 ⟨Nat.le_of_ble_eq_true rfl, Nat.le_of_ble_eq_true rfl⟩ ⟨rfl, rfl⟩ (Nat.le_of_ble_eq_true rfl) fl_X10_369 (v := .int (i 78 56)) rfl dX10_beginLine_1 ?_
  refine lv_if_le (pc := 4) (tgt := 13) C0.1 C0.2.1 dX10_beginLine_4 (by decide) (fun c1 => ?_) (fun c1 => ?_)
  · have : Int32.toInt 0 = 0 := rfl
    have c1 := Int32.le_iff_toInt_le.mp c1
    refine lv_iconst (pc := 13) (v := 0) C0.1 C0.2.1 dX10_beginLine_13 (by decide) ?_
    refine lv_istore_n (pc := 14) (lv' := [(2, .int 0), (0, .ref (b + 78)), (1, .int x)]) C0.1 C0.2.1 dX10_beginLine_14 rfl hl (by decide) rfl (fun ls hl => ?_)
    exact L15 200000 0 i F G _ _ _ (by have : Int32.toInt 0 = 0 := rfl; omega) (by have : Int32.toInt 0 = 0 := rfl; omega) RO.rf (show _ ≤ Int32.toInt (i 78 56) ∧ Int32.toInt (i 78 56) ≤ _ from by have : Int32.toInt 0 = 0 := rfl; omega) hH hS (lv_sub hl [0, 1, 2] rfl)
  · have : Int32.toInt 0 = 0 := rfl
    have c1 : ¬ _ := fun q => c1 (Int32.le_iff_toInt_le.mpr q)
    refine lv_aload_n (pc := 7) C0.1 C0.2.1 dX10_beginLine_7 rfl (lv_at hl 0 rfl) ?_
    refine lv_bipush (pc := 8) (v := 10) C0.1 C0.2.1 dX10_beginLine_8 (by decide) ?_
    refine xcVV (pc := 10) 78 [.int 10] (m_put l D tA b i F G 10 (show 0 ≤ Int32.toInt (i 78 56) ∧ Int32.toInt (i 78 56) ≤ 2000000000 from by omega) ) C0 hH hS clX10 rfl ⟨⟨Nat.le_of_ble_eq_true rfl, Nat.le_of_ble_eq_true rfl⟩, rfl, rfl⟩ cw_X10_372 rfl ⟨Nat.le_of_ble_eq_true rfl, Nat.le_of_ble_eq_true rfl⟩ hl.1 rfl (Nat.le_of_ble_eq_true rfl) dX10_beginLine_10 ⟨Nat.le_of_ble_eq_true rfl, Nat.le_of_ble_eq_true rfl⟩ (fun ir2 Fr2 Gr2 _ locs hp hH hS => ?_)
    obtain ⟨honr2, hdsr2⟩ := hp
    have hdsr2 : Int32.toInt (i 78 56) ≤ (ir2 78 56).toInt ∧ (ir2 78 56).toInt ≤ Int32.toInt (i 78 56) + 1 := hdsr2
    refine lv_iconst (pc := 13) (v := 0) C0.1 C0.2.1 dX10_beginLine_13 (by decide) ?_
    refine lv_istore_n (pc := 14) (lv' := [(2, .int 0), (0, .ref (b + 78)), (1, .int x)]) C0.1 C0.2.1 dX10_beginLine_14 rfl hl (by decide) rfl (fun ls hl => ?_)
    exact L15 200000 0 ir2 Fr2 Gr2 _ _ _ (by have : Int32.toInt 0 = 0 := rfl; omega) (by have : Int32.toInt 0 = 0 := rfl; omega) (RO.tr RO.rf honr2 (by decide) (by decide)) (show _ ≤ Int32.toInt (ir2 78 56) ∧ Int32.toInt (ir2 78 56) ≤ _ from by have : Int32.toInt 0 = 0 := rfl; omega) hH hS (lv_sub hl [0, 1, 2] rfl)
