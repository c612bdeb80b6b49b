set_option maxRecDepth 20000 in
theorem fl_X1_19 : Cond.fieldLink RX1 19 (TX1 2).1 (TX1 2).2.1 (TX1 2).2.2.1 ∈ WALL := wm 36 (by decide +kernel) rfl
theorem dX1_roleOf_0 : decode cX1_roleOf 0 = .ok (.iconst 0, 1) := by decide +kernel
theorem dX1_roleOf_1 : decode cX1_roleOf 1 = .ok (.istore_n 3, 1) := by decide +kernel
theorem dX1_roleOf_2 : decode cX1_roleOf 2 = .ok (.iload_n 3, 1) := by decide +kernel
theorem dX1_roleOf_3 : decode cX1_roleOf 3 = .ok (.aload_n 0, 1) := by decide +kernel
theorem dX1_roleOf_4 : decode cX1_roleOf 4 = .ok (.getfield 19, 3) := by decide +kernel
theorem dX1_roleOf_7 : decode cX1_roleOf 7 = .ok (.if_icmp .ge 27, 3) := by decide +kernel
theorem dX1_roleOf_34 : decode cX1_roleOf 34 = .ok (.iconst 0, 1) := by decide +kernel
theorem dX1_roleOf_35 : decode cX1_roleOf 35 = .ok (.ireturn, 1) := by decide +kernel
theorem dX1_roleOf_10 : decode cX1_roleOf 10 = .ok (.aload_n 0, 1) := by decide +kernel
theorem dX1_roleOf_11 : decode cX1_roleOf 11 = .ok (.getfield 9, 3) := by decide +kernel
theorem dX1_roleOf_14 : decode cX1_roleOf 14 = .ok (.iload_n 3, 1) := by decide +kernel
theorem dX1_roleOf_15 : decode cX1_roleOf 15 = .ok (.laload, 1) := by decide +kernel
theorem dX1_roleOf_16 : decode cX1_roleOf 16 = .ok (.lload_n 1, 1) := by decide +kernel
theorem dX1_roleOf_17 : decode cX1_roleOf 17 = .ok (.lcmp, 1) := by decide +kernel
theorem dX1_roleOf_18 : decode cX1_roleOf 18 = .ok (.ifCond .ne 10, 3) := by decide +kernel
theorem dX1_roleOf_28 : decode cX1_roleOf 28 = .ok (.iinc 3 1, 3) := by decide +kernel
theorem dX1_roleOf_31 : decode cX1_roleOf 31 = .ok (.goto (-29), 3) := by decide +kernel
theorem dX1_roleOf_21 : decode cX1_roleOf 21 = .ok (.aload_n 0, 1) := by decide +kernel
theorem dX1_roleOf_22 : decode cX1_roleOf 22 = .ok (.getfield 15, 3) := by decide +kernel
theorem dX1_roleOf_25 : decode cX1_roleOf 25 = .ok (.iload_n 3, 1) := by decide +kernel
theorem dX1_roleOf_26 : decode cX1_roleOf 26 = .ok (.iaload, 1) := by decide +kernel
theorem dX1_roleOf_27 : decode cX1_roleOf 27 = .ok (.ireturn, 1) := by decide +kernel
set_option maxHeartbeats 4000000 in
set_option maxRecDepth 100000 in
theorem g_X1_roleOf (l : Launch) (D : va_G) (tA : Nat → ClassId) (b : Nat) (i F : Nat → Nat → Int32) (G : Nat → Nat → Int64) (w : Int64) (htd : 0 ≤ (i 1 2).toInt ∧ (i 1 2).toInt ≤ 24) (hro : ∀ j : Nat, (j : Int) < (i 1 2).toInt → ¬ F 3 j = 0) : xMI l yX1_roleOf cX1_roleOf 4 (some .int) 0 0 D tA b 0 78 i F G [.ref (b + 1), .long w] (fun r u => u = (i, F, G) ∧ (r = 0 ↔ ¬ ∃ j : Nat, (j : Int) < (i 1 2).toInt ∧ G 2 j = w)) := by
  refine xstart RX1 rfl (by decide) (Nat.le_of_ble_eq_true rfl) ?_
  intro p e s m below meth c ls C0 hr hH hS hl
  have hl : lv_has ls 4 [(0, .ref (b + 1)), (1, .long w)] := hl
  have LOOP : ∀ (d : Nat) (k : Int32) (H : Heap) (locs : List Loc) (ls : Array Slot), (0 ≤ k.toInt) → ((i 1 2).toInt - k.toInt ≤ d) → (∀ j : Nat, (j : Int) < k.toInt → ¬ G 2 j = w) → Hd D tA b 0 78 zz i F G H → va_S (xA b 0 78) s.heap H locs → lv_has ls 4 [(3, .int k), (0, .ref (b + 1)), (1, .long w)] → W p l e (xR 0 0) s m ([.ref (b + 1), .long w] : List Value).toArray below meth c H locs 0 0 (MQ below (va_Qi (fun r u => u = (i, F, G) ∧ (r = 0 ↔ ¬ ∃ j : Nat, (j : Int) < (i 1 2).toInt ∧ G 2 j = w)) (xB D tA b 0 78 zz) (xA b 0 78)) ([.ref (b + 1), .long w] : List Value).toArray s 0 0 (xA b 0 78)) (F0 m 2 ls []) := by
    intro d
    induction d with
    | zero =>
      intro k H locs ls h1 h2 h3 hH hS hl
      have rg_k := fb_rng k
      refine lv_iload_n (pc := 2) C0.1 C0.2.1 dX1_roleOf_2 rfl (lv_at hl 0 rfl) ?_
      refine lv_aload_n (pc := 3) C0.1 C0.2.1 dX1_roleOf_3 rfl (lv_at hl 1 rfl) ?_
      refine xget (pc := 4) C0 hH 1 2 clX1 ⟨Nat.le_of_ble_eq_true rfl, Nat.le_of_ble_eq_true rfl⟩ ⟨rfl, rfl⟩ (Nat.le_of_ble_eq_true rfl) fl_X1_19 (v := .int (i 1 2)) rfl dX1_roleOf_4 ?_
      refine lv_icmp_ge (pc := 7) (tgt := 34) C0.1 C0.2.1 dX1_roleOf_7 (by decide) (fun _ => ?_) (fun c => absurd (Int32.le_iff_toInt_le.mpr (by omega)) c)
      refine lv_iconst (pc := 34) (v := 0) C0.1 C0.2.1 dX1_roleOf_34 (by decide) ?_
      exact xiret (pc := 35) C0 hr hH hS dX1_roleOf_35 ⟨rfl, ⟨fun _ q => by obtain ⟨j, q1, q2⟩ := q; exact h3 j (by omega) q2, fun _ => rfl⟩⟩
    | succ d ih =>
      intro k H locs ls h1 h2 h3 hH hS hl
      have rg_k := fb_rng k
      refine lv_iload_n (pc := 2) C0.1 C0.2.1 dX1_roleOf_2 rfl (lv_at hl 0 rfl) ?_
      refine lv_aload_n (pc := 3) C0.1 C0.2.1 dX1_roleOf_3 rfl (lv_at hl 1 rfl) ?_
      refine xget (pc := 4) C0 hH 1 2 clX1 ⟨Nat.le_of_ble_eq_true rfl, Nat.le_of_ble_eq_true rfl⟩ ⟨rfl, rfl⟩ (Nat.le_of_ble_eq_true rfl) fl_X1_19 (v := .int (i 1 2)) rfl dX1_roleOf_4 ?_
      refine lv_icmp_ge (pc := 7) (tgt := 34) C0.1 C0.2.1 dX1_roleOf_7 (by decide) (fun c101 => ?_) (fun c101 => ?_)
      · have c101 := Int32.le_iff_toInt_le.mp c101
        refine lv_iconst (pc := 34) (v := 0) C0.1 C0.2.1 dX1_roleOf_34 (by decide) ?_
        exact xiret (pc := 35) C0 hr hH hS dX1_roleOf_35 ⟨rfl, ⟨fun _ q => by obtain ⟨j, q1, q2⟩ := q; exact h3 j (by omega) q2, fun _ => rfl⟩⟩
      · have c101 : ¬ _ := fun q => c101 (Int32.le_iff_toInt_le.mpr q)
        refine lv_aload_n (pc := 10) C0.1 C0.2.1 dX1_roleOf_10 rfl (lv_at hl 1 rfl) ?_
        refine xget (pc := 11) C0 hH 1 0 clX1 ⟨Nat.le_of_ble_eq_true rfl, Nat.le_of_ble_eq_true rfl⟩ ⟨rfl, rfl⟩ (Nat.le_of_ble_eq_true rfl) fl_X1_9 (v := .ref (b + 2)) rfl dX1_roleOf_11 ?_
        refine lv_iload_n (pc := 14) C0.1 C0.2.1 dX1_roleOf_14 rfl (lv_at hl 0 rfl) ?_
        refine xlald (pc := 15) (N := 24) C0 hH 2 ⟨Nat.le_of_ble_eq_true rfl, Nat.le_of_ble_eq_true rfl⟩ ⟨rfl, rfl⟩ (vI (by omega) (by omega)) dX1_roleOf_15 ?_
        refine lv_lload_n (pc := 16) C0.1 C0.2.1 dX1_roleOf_16 rfl (lv_at hl 2 rfl) ?_
        refine W.lcmp (pc := 17) C0.1 C0.2.1 dX1_roleOf_17 ?_
        refine lv_if_ne (pc := 18) (tgt := 28) C0.1 C0.2.1 dX1_roleOf_18 (by decide) (fun c9 => ?_) (fun c9 => ?_)
        · have c9 : ¬ G 2 k.toNatClampNeg = w := fun q => c9 ((lg_cmp_eq _ _).mpr q)
          obtain ⟨x102, ex102⟩ : ∃ y_ : Int32, y_ = k + 1 := ⟨_, rfl⟩
          have : Int32.toInt 1 = 1 := rfl
          have hx102 : Int32.toInt x102 = Int32.toInt k + Int32.toInt 1 := by rw [ex102]; exact fb_addI (by omega) (by omega)
          refine lv_iinc (pc := 28) (v := x102) (lv' := [(3, .int x102), (0, .ref (b + 1)), (1, .long w)]) C0.1 C0.2.1 dX1_roleOf_28 hl (k := 0) rfl (by rw [ex102]; rfl) (by decide) rfl (fun ls hl => ?_)
          refine lv_goto (pc := 31) (tgt := 2) C0.1 C0.2.1 dX1_roleOf_31 (by decide) ?_
          exact ih x102 _ _ _ (by omega) (by omega) (fun j hj => by have hk := clI h1; rcases (show (j : Int) < k.toInt ∨ j = k.toNatClampNeg by omega) with q | q; exact h3 j q; rw [q]; exact c9) hH hS (lv_sub hl [0, 1, 2] rfl)
        · have c9 : G 2 k.toNatClampNeg = w := (lg_cmp_eq _ _).mp c9
          refine lv_aload_n (pc := 21) C0.1 C0.2.1 dX1_roleOf_21 rfl (lv_at hl 1 rfl) ?_
          refine xget (pc := 22) C0 hH 1 1 clX1 ⟨Nat.le_of_ble_eq_true rfl, Nat.le_of_ble_eq_true rfl⟩ ⟨rfl, rfl⟩ (Nat.le_of_ble_eq_true rfl) fl_X1_15 (v := .ref (b + 3)) rfl dX1_roleOf_22 ?_
          refine lv_iload_n (pc := 25) C0.1 C0.2.1 dX1_roleOf_25 rfl (lv_at hl 0 rfl) ?_
          refine xiald (pc := 26) (N := 24) C0 hH 3 ⟨Nat.le_of_ble_eq_true rfl, Nat.le_of_ble_eq_true rfl⟩ ⟨rfl, rfl⟩ (vI (by omega) (by omega)) dX1_roleOf_26 ?_
          exact xiret (pc := 27) C0 hr hH hS dX1_roleOf_27 ⟨rfl, ⟨fun q => absurd q (hro _ (by have := clI h1; omega)), fun q => absurd ⟨k.toNatClampNeg, by have := clI h1; omega, c9⟩ q⟩⟩
  refine lv_iconst (pc := 0) (v := 0) C0.1 C0.2.1 dX1_roleOf_0 (by decide) ?_
  refine lv_istore_n (pc := 1) (lv' := [(3, .int 0), (0, .ref (b + 1)), (1, .long w)]) C0.1 C0.2.1 dX1_roleOf_1 rfl hl (by decide) rfl (fun ls hl => ?_)
  exact LOOP 24 0 _ _ _ (by have : Int32.toInt 0 = 0 := rfl; omega) (by have : Int32.toInt 0 = 0 := rfl; omega) (fun j hj => absurd hj (by have : Int32.toInt 0 = 0 := rfl; omega)) hH hS (lv_sub hl [0, 1, 2] rfl)
