set_option maxRecDepth 20000 in
theorem cw_X10_171 : CwS RX10 171 yX10_isLetter cX10_isLetter 1 (some .boolean) 1 := ⟨wm 1273 (by decide +kernel) rfl, wm 1274 (by decide +kernel) rfl, wm 11 (by decide +kernel) rfl, wm 1275 rfl rfl, by decide +kernel⟩
theorem dX10_isWord_0 : decode cX10_isWord 0 = .ok (.lload_n 0, 1) := by decide +kernel
theorem dX10_isWord_1 : decode cX10_isWord 1 = .ok (.lconst 0, 1) := by decide +kernel
theorem dX10_isWord_2 : decode cX10_isWord 2 = .ok (.lcmp, 1) := by decide +kernel
theorem dX10_isWord_3 : decode cX10_isWord 3 = .ok (.ifCond .eq 7, 3) := by decide +kernel
theorem dX10_isWord_10 : decode cX10_isWord 10 = .ok (.iconst 0, 1) := by decide +kernel
theorem dX10_isWord_11 : decode cX10_isWord 11 = .ok (.istore_n 2, 1) := by decide +kernel
theorem dX10_isWord_12 : decode cX10_isWord 12 = .ok (.iconst 0, 1) := by decide +kernel
theorem dX10_isWord_13 : decode cX10_isWord 13 = .ok (.istore_n 3, 1) := by decide +kernel
theorem dX10_isWord_6 : decode cX10_isWord 6 = .ok (.iconst 1, 1) := by decide +kernel
theorem dX10_isWord_7 : decode cX10_isWord 7 = .ok (.goto 4, 3) := by decide +kernel
theorem dX10_isWord_14 : decode cX10_isWord 14 = .ok (.iload_n 3, 1) := by decide +kernel
theorem dX10_isWord_15 : decode cX10_isWord 15 = .ok (.bipush 8, 2) := by decide +kernel
theorem dX10_isWord_17 : decode cX10_isWord 17 = .ok (.if_icmp .ge 45, 3) := by decide +kernel
theorem dX10_isWord_62 : decode cX10_isWord 62 = .ok (.iload_n 2, 1) := by decide +kernel
theorem dX10_isWord_63 : decode cX10_isWord 63 = .ok (.ireturn, 1) := by decide +kernel
theorem dX10_isWord_20 : decode cX10_isWord 20 = .ok (.iload_n 2, 1) := by decide +kernel
theorem dX10_isWord_21 : decode cX10_isWord 21 = .ok (.ifCond .eq 41, 3) := by decide +kernel
theorem dX10_isWord_24 : decode cX10_isWord 24 = .ok (.lload_n 0, 1) := by decide +kernel
theorem dX10_isWord_25 : decode cX10_isWord 25 = .ok (.bipush 8, 2) := by decide +kernel
theorem dX10_isWord_27 : decode cX10_isWord 27 = .ok (.iload_n 3, 1) := by decide +kernel
theorem dX10_isWord_28 : decode cX10_isWord 28 = .ok (.imul, 1) := by decide +kernel
theorem dX10_isWord_29 : decode cX10_isWord 29 = .ok (.lushr, 1) := by decide +kernel
theorem dX10_isWord_30 : decode cX10_isWord 30 = .ok (.ldc2_w 169, 3) := by decide +kernel
theorem dX10_isWord_33 : decode cX10_isWord 33 = .ok (.land, 1) := by decide +kernel
theorem dX10_isWord_34 : decode cX10_isWord 34 = .ok (.l2i, 1) := by decide +kernel
theorem dX10_isWord_35 : decode cX10_isWord 35 = .ok (.istore 4, 2) := by decide +kernel
theorem dX10_isWord_37 : decode cX10_isWord 37 = .ok (.iload 4, 2) := by decide +kernel
theorem dX10_isWord_39 : decode cX10_isWord 39 = .ok (.ifCond .eq 11, 3) := by decide +kernel
theorem dX10_isWord_50 : decode cX10_isWord 50 = .ok (.iconst 1, 1) := by decide +kernel
theorem dX10_isWord_51 : decode cX10_isWord 51 = .ok (.goto 4, 3) := by decide +kernel
theorem dX10_isWord_55 : decode cX10_isWord 55 = .ok (.istore_n 2, 1) := by decide +kernel
theorem dX10_isWord_56 : decode cX10_isWord 56 = .ok (.iinc 3 1, 3) := by decide +kernel
theorem dX10_isWord_59 : decode cX10_isWord 59 = .ok (.goto (-45), 3) := by decide +kernel
theorem dX10_isWord_42 : decode cX10_isWord 42 = .ok (.iload 4, 2) := by decide +kernel
theorem dX10_isWord_44 : decode cX10_isWord 44 = .ok (.invokestatic 171, 3) := by decide +kernel
theorem dX10_isWord_47 : decode cX10_isWord 47 = .ok (.ifCond .eq 7, 3) := by decide +kernel
theorem dX10_isWord_54 : decode cX10_isWord 54 = .ok (.iconst 0, 1) := by decide +kernel
set_option maxHeartbeats 4000000 in
set_option maxRecDepth 100000 in
theorem c_X10_isWord (l : Launch) (D : va_G) (tA : Nat → ClassId) (b : Nat) (o n : Nat) (i F : Nat → Nat → Int32) (G : Nat → Nat → Int64) (t : Int64) (ht : tl0 t) : xMI l yX10_isWord cX10_isWord 5 (some .boolean) 1 20 D tA b o n i F G [.long t] (fun r u => u = (i, F, G) ∧ r = wdI t) := by
  refine xstart RX10 rfl (by decide) (Nat.le_of_ble_eq_true rfl) ?_
  intro p e s m below meth c ls C0 hr hH hS hl
  have hl : lv_has ls 5 [(0, .long t)] := hl
  have LOOP : ∀ (d : Nat) (k : Nat) (is : Int32) (H : Heap) (locs : List Loc) (ls : Array Slot), (k + d = 8) → ((is = 1 ∧ ¬ t = 0 ∧ ∀ j, j < k → bt t j = 0 ∨ (97 ≤ bt t j ∧ bt t j ≤ 122)) ∨ (is = 0 ∧ ¬ wd t)) → Hd D tA b o n zz i F G H → va_S (xA b o n) s.heap H locs → lv_has ls 5 [(3, .int (nI k)), (2, .int is), (0, .long t)] → W p l e (xR 1 20) s m ([.long t] : List Value).toArray below meth c H locs 0 0 (MQ below (va_Qi (fun r u => u = (i, F, G) ∧ r = wdI t) (xB D tA b o n zz) (xA b o n)) ([.long t] : List Value).toArray s 0 0 (xA b o n)) (F0 m 14 ls []) := by
    intro d
    induction d with
    | zero =>
      intro k is H locs ls h1 h2 hH hS hl
      refine lv_iload_n (pc := 14) C0.1 C0.2.1 dX10_isWord_14 rfl (lv_at hl 0 rfl) ?_
      refine lv_bipush (pc := 15) (v := 8) C0.1 C0.2.1 dX10_isWord_15 (by decide) ?_
      refine lv_icmp_ge (pc := 17) (tgt := 62) C0.1 C0.2.1 dX10_isWord_17 (by decide) (fun _ => ?_) (fun c => absurd (by rw [show k = 8 by omega]; decide) c)
      refine lv_iload_n (pc := 62) C0.1 C0.2.1 dX10_isWord_62 rfl (lv_at hl 1 rfl) ?_
      exact xzret (pc := 63) C0 hr hH hS dX10_isWord_63 (h2.elim (fun q => Or.inr q.1) (fun q => Or.inl q.1)) ⟨rfl, by first | exact h3.1.trans (wdI_0 h3.2).symm | (have hk8 : k = 8 := by omega) ; subst hk8; exact h2.elim (fun q => q.1.trans (wdI_1 (wd_m ht q.2.1 q.2.2)).symm) (fun q => q.1.trans (wdI_0 q.2).symm)⟩
    | succ d ih =>
      intro k is H locs ls h1 h2 hH hS hl
      refine lv_iload_n (pc := 14) C0.1 C0.2.1 dX10_isWord_14 rfl (lv_at hl 0 rfl) ?_
      refine lv_bipush (pc := 15) (v := 8) C0.1 C0.2.1 dX10_isWord_15 (by decide) ?_
      refine lv_icmp_ge (pc := 17) (tgt := 62) C0.1 C0.2.1 dX10_isWord_17 (by decide) (fun c => absurd c (lt_nn (by omega))) (fun _ => ?_)
      refine lv_iload_n (pc := 20) C0.1 C0.2.1 dX10_isWord_20 rfl (lv_at hl 1 rfl) ?_
      refine lv_if_eq (pc := 21) (tgt := 62) C0.1 C0.2.1 dX10_isWord_21 (by decide) (fun c1 => ?_) (fun c1 => ?_)
      · have h3 := h2.resolve_left (fun q => absurd (q.1.symm.trans c1) (by decide))
        refine lv_iload_n (pc := 62) C0.1 C0.2.1 dX10_isWord_62 rfl (lv_at hl 1 rfl) ?_
        exact xzret (pc := 63) C0 hr hH hS dX10_isWord_63 (h2.elim (fun q => Or.inr q.1) (fun q => Or.inl q.1)) ⟨rfl, by first | exact h3.1.trans (wdI_0 h3.2).symm | (have hk8 : k = 8 := by omega) ; subst hk8; exact h2.elim (fun q => q.1.trans (wdI_1 (wd_m ht q.2.1 q.2.2)).symm) (fun q => q.1.trans (wdI_0 q.2).symm)⟩
      · obtain ⟨h3, h5, h4⟩ := h2.resolve_right (fun q => c1 q.1)
        refine lv_lload_n (pc := 24) C0.1 C0.2.1 dX10_isWord_24 rfl (lv_at hl 2 rfl) ?_
        refine lv_bipush (pc := 25) (v := 8) C0.1 C0.2.1 dX10_isWord_25 (by decide) ?_
        refine lv_iload_n (pc := 27) C0.1 C0.2.1 dX10_isWord_27 rfl (lv_at hl 0 rfl) ?_
        refine lv_imul (pc := 28) C0.1 C0.2.1 dX10_isWord_28 ?_
        obtain ⟨x1, ex1⟩ : ∃ y : Int64, y = (t.toUInt64 >>> ((8 * (nI k)).toInt64.toUInt64 &&& Int64.toUInt64 63)).toInt64 := ⟨_, rfl⟩
        refine lv_lushr (pc := 29) (v := x1) C0.1 C0.2.1 dX10_isWord_29 (by rw [ex1]) ?_
        refine lv_ldc2 (pc := 30) C0.1 C0.2.1 C0.2.2.2.1 (C0.2.2.2.2.1 _ kl_X10_169) dX10_isWord_30 ?_
        refine lv_land (pc := 33) C0.1 C0.2.1 dX10_isWord_33 ?_
        refine lv_topl (fun q2 eq2 => ?_)
        obtain rfl : q2 = lN (bt t k) := by rw [eq2]; rw [ex1]; exact bt_m t (by omega)
        refine lv_l2i (pc := 34) (v := (lN (bt t k)).toInt32) C0.1 C0.2.1 dX10_isWord_34 rfl ?_
        refine lv_topi (fun q3 eq3 => ?_)
        obtain rfl : q3 = nI (bt t k) := by rw [eq3]; exact lN_i _
        refine lv_istore (pc := 35) (lv' := [(4, .int (nI (bt t k))), (3, .int (nI k)), (2, .int is), (0, .long t)]) C0.1 C0.2.1 dX10_isWord_35 hl (by decide) rfl (fun ls hl => ?_)
        refine lv_iload (pc := 37) C0.1 C0.2.1 dX10_isWord_37 (lv_at hl 0 rfl) ?_
        refine lv_if_eq (pc := 39) (tgt := 50) C0.1 C0.2.1 dX10_isWord_39 (by decide) (fun c2 => ?_) (fun c2 => ?_)
        · have c2 := zz_ (bt_lb _ _) c2
          have hw : (bt t k = 0 ∨ (97 ≤ bt t k ∧ bt t k ≤ 122)) := Or.inl c2
          refine lv_iconst (pc := 50) (v := 1) C0.1 C0.2.1 dX10_isWord_50 (by decide) ?_
          refine lv_goto (pc := 51) (tgt := 55) C0.1 C0.2.1 dX10_isWord_51 (by decide) ?_
          refine lv_istore_n (pc := 55) (lv' := [(2, .int 1), (4, .int (nI (bt t k))), (3, .int (nI k)), (0, .long t)]) C0.1 C0.2.1 dX10_isWord_55 rfl hl (by decide) rfl (fun ls hl => ?_)
          refine lv_iinc (pc := 56) (v := (nI (k + 1))) (lv' := [(3, .int (nI (k + 1))), (2, .int 1), (4, .int (nI (bt t k))), (0, .long t)]) C0.1 C0.2.1 dX10_isWord_56 hl (k := 2) rfl (nI_1 k) (by decide) rfl (fun ls hl => ?_)
          refine lv_goto (pc := 59) (tgt := 14) C0.1 C0.2.1 dX10_isWord_59 (by decide) ?_
          exact ih (k + 1) 1 _ _ _ (by omega) (Or.inl ⟨rfl, h5, lt_s h4 hw⟩) hH hS (lv_sub hl [0, 1, 3] rfl)
        · have c2 := nz_ c2
          skip
          refine lv_iload (pc := 42) C0.1 C0.2.1 dX10_isWord_42 (lv_at hl 0 rfl) ?_
          refine xcSI (pc := 44) [.int (nI (bt t k))] (c_X10_isLetter l D tA b o n i F G (nI (bt t k))) C0 hH hS cw_X10_171 rfl ⟨Nat.le_of_ble_eq_true rfl, Nat.le_of_ble_eq_true rfl⟩ hl.1 rfl (Nat.le_of_ble_eq_true rfl) dX10_isWord_44 ⟨Nat.le_of_ble_eq_true rfl, Nat.le_of_ble_eq_true rfl⟩ (fun r4 ir4 Fr4 Gr4 _ locs hp hH hS => ?_)
          obtain ⟨hu, rfl⟩ := hp
          cases hu
          refine lv_if_eq (pc := 47) (tgt := 54) C0.1 C0.2.1 dX10_isWord_47 (by decide) (fun c3 => ?_) (fun c3 => ?_)
          · have c3 := lt_0_ (bt_lt _ _) c3
            skip
            refine lv_iconst (pc := 54) (v := 0) C0.1 C0.2.1 dX10_isWord_54 (by decide) ?_
            refine lv_istore_n (pc := 55) (lv' := [(2, .int 0), (4, .int (nI (bt t k))), (3, .int (nI k)), (0, .long t)]) C0.1 C0.2.1 dX10_isWord_55 rfl hl (by decide) rfl (fun ls hl => ?_)
            refine lv_iinc (pc := 56) (v := (nI (k + 1))) (lv' := [(3, .int (nI (k + 1))), (2, .int 0), (4, .int (nI (bt t k))), (0, .long t)]) C0.1 C0.2.1 dX10_isWord_56 hl (k := 2) rfl (nI_1 k) (by decide) rfl (fun ls hl => ?_)
            refine lv_goto (pc := 59) (tgt := 14) C0.1 C0.2.1 dX10_isWord_59 (by decide) ?_
            exact ih (k + 1) 0 _ _ _ (by omega) (Or.inr ⟨rfl, wd_mn ht (by omega) c2 c3⟩) hH hS (lv_sub hl [0, 1, 3] rfl)
          · have c3 := lt_1 (bt_lt _ _) c3
            have hw : (bt t k = 0 ∨ (97 ≤ bt t k ∧ bt t k ≤ 122)) := Or.inr c3
            refine lv_iconst (pc := 50) (v := 1) C0.1 C0.2.1 dX10_isWord_50 (by decide) ?_
            refine lv_goto (pc := 51) (tgt := 55) C0.1 C0.2.1 dX10_isWord_51 (by decide) ?_
            refine lv_istore_n (pc := 55) (lv' := [(2, .int 1), (4, .int (nI (bt t k))), (3, .int (nI k)), (0, .long t)]) C0.1 C0.2.1 dX10_isWord_55 rfl hl (by decide) rfl (fun ls hl => ?_)
            refine lv_iinc (pc := 56) (v := (nI (k + 1))) (lv' := [(3, .int (nI (k + 1))), (2, .int 1), (4, .int (nI (bt t k))), (0, .long t)]) C0.1 C0.2.1 dX10_isWord_56 hl (k := 2) rfl (nI_1 k) (by decide) rfl (fun ls hl => ?_)
            refine lv_goto (pc := 59) (tgt := 14) C0.1 C0.2.1 dX10_isWord_59 (by decide) ?_
            exact ih (k + 1) 1 _ _ _ (by omega) (Or.inl ⟨rfl, h5, lt_s h4 hw⟩) hH hS (lv_sub hl [0, 1, 3] rfl)
  refine lv_lload_n (pc := 0) C0.1 C0.2.1 dX10_isWord_0 rfl (lv_at hl 0 rfl) ?_
  refine lv_lconst (pc := 1) (v := 0) C0.1 C0.2.1 dX10_isWord_1 (by decide) ?_
  refine W.lcmp (pc := 2) C0.1 C0.2.1 dX10_isWord_2 ?_
  refine lv_if_eq (pc := 3) (tgt := 10) C0.1 C0.2.1 dX10_isWord_3 (by decide) (fun c1 => ?_) (fun c1 => ?_)
  · have c1 := (lg_cmp_eq _ _).mp c1
    refine lv_iconst (pc := 10) (v := 0) C0.1 C0.2.1 dX10_isWord_10 (by decide) ?_
    refine lv_istore_n (pc := 11) (lv' := [(2, .int 0), (0, .long t)]) C0.1 C0.2.1 dX10_isWord_11 rfl hl (by decide) rfl (fun ls hl => ?_)
    refine lv_iconst (pc := 12) (v := 0) C0.1 C0.2.1 dX10_isWord_12 (by decide) ?_
    refine lv_istore_n (pc := 13) (lv' := [(3, .int 0), (2, .int 0), (0, .long t)]) C0.1 C0.2.1 dX10_isWord_13 rfl hl (by decide) rfl (fun ls hl => ?_)
    exact LOOP 8 0 0 _ _ _ (by omega) (Or.inr ⟨rfl, wd_z c1⟩) hH hS (lv_sub hl [0, 1, 2] rfl)
  · have c1 := fun q => c1 ((lg_cmp_eq _ _).mpr q)
    refine lv_iconst (pc := 6) (v := 1) C0.1 C0.2.1 dX10_isWord_6 (by decide) ?_
    refine lv_goto (pc := 7) (tgt := 11) C0.1 C0.2.1 dX10_isWord_7 (by decide) ?_
    refine lv_istore_n (pc := 11) (lv' := [(2, .int 1), (0, .long t)]) C0.1 C0.2.1 dX10_isWord_11 rfl hl (by decide) rfl (fun ls hl => ?_)
    refine lv_iconst (pc := 12) (v := 0) C0.1 C0.2.1 dX10_isWord_12 (by decide) ?_
    refine lv_istore_n (pc := 13) (lv' := [(3, .int 0), (2, .int 1), (0, .long t)]) C0.1 C0.2.1 dX10_isWord_13 rfl hl (by decide) rfl (fun ls hl => ?_)
    exact LOOP 8 0 1 _ _ _ (by omega) (Or.inl ⟨rfl, c1, fun j hj => absurd hj (Nat.not_lt_zero _)⟩) hH hS (lv_sub hl [0, 1, 2] rfl)
