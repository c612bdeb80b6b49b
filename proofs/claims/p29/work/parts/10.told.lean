set_option maxRecDepth 20000 in
theorem kl_X10_169 : Cond.constantLong RX10 169 255 ∈ WALL := wm 1269 (by decide +kernel) rfl
theorem dX10_in_0 : decode cX10_in 0 = .ok (.lload_n 0, 1) := by decide +kernel
theorem dX10_in_1 : decode cX10_in 1 = .ok (.lload_n 2, 1) := by decide +kernel
theorem dX10_in_2 : decode cX10_in 2 = .ok (.lcmp, 1) := by decide +kernel
theorem dX10_in_3 : decode cX10_in 3 = .ok (.ifCond .lt 14, 3) := by decide +kernel
theorem dX10_in_17 : decode cX10_in 17 = .ok (.iconst 0, 1) := by decide +kernel
theorem dX10_in_18 : decode cX10_in 18 = .ok (.ireturn, 1) := by decide +kernel
theorem dX10_in_6 : decode cX10_in 6 = .ok (.lload_n 0, 1) := by decide +kernel
theorem dX10_in_7 : decode cX10_in 7 = .ok (.lload 4, 2) := by decide +kernel
theorem dX10_in_9 : decode cX10_in 9 = .ok (.lcmp, 1) := by decide +kernel
theorem dX10_in_10 : decode cX10_in 10 = .ok (.ifCond .gt 7, 3) := by decide +kernel
theorem dX10_in_13 : decode cX10_in 13 = .ok (.iconst 1, 1) := by decide +kernel
theorem dX10_in_14 : decode cX10_in 14 = .ok (.goto 4, 3) := by decide +kernel
theorem dX10_told_0 : decode cX10_told 0 = .ok (.lconst 0, 1) := by decide +kernel
theorem dX10_told_1 : decode cX10_told 1 = .ok (.lstore_n 2, 1) := by decide +kernel
theorem dX10_told_2 : decode cX10_told 2 = .ok (.iconst 1, 1) := by decide +kernel
theorem dX10_told_3 : decode cX10_told 3 = .ok (.istore 4, 2) := by decide +kernel
theorem dX10_told_5 : decode cX10_told 5 = .ok (.iconst 0, 1) := by decide +kernel
theorem dX10_told_6 : decode cX10_told 6 = .ok (.istore 5, 2) := by decide +kernel
theorem dX10_told_8 : decode cX10_told 8 = .ok (.iload 5, 2) := by decide +kernel
theorem dX10_told_10 : decode cX10_told 10 = .ok (.bipush 8, 2) := by decide +kernel
theorem dX10_told_12 : decode cX10_told 12 = .ok (.if_icmp .ge 52, 3) := by decide +kernel
theorem dX10_told_64 : decode cX10_told 64 = .ok (.lload_n 2, 1) := by decide +kernel
theorem dX10_told_65 : decode cX10_told 65 = .ok (.lreturn, 1) := by decide +kernel
theorem dX10_told_15 : decode cX10_told 15 = .ok (.iload 4, 2) := by decide +kernel
theorem dX10_told_17 : decode cX10_told 17 = .ok (.ifCond .eq 47, 3) := by decide +kernel
theorem dX10_told_20 : decode cX10_told 20 = .ok (.lload_n 0, 1) := by decide +kernel
theorem dX10_told_21 : decode cX10_told 21 = .ok (.bipush 8, 2) := by decide +kernel
theorem dX10_told_23 : decode cX10_told 23 = .ok (.iload 5, 2) := by decide +kernel
theorem dX10_told_25 : decode cX10_told 25 = .ok (.imul, 1) := by decide +kernel
theorem dX10_told_26 : decode cX10_told 26 = .ok (.lushr, 1) := by decide +kernel
theorem dX10_told_27 : decode cX10_told 27 = .ok (.ldc2_w 169, 3) := by decide +kernel
theorem dX10_told_30 : decode cX10_told 30 = .ok (.land, 1) := by decide +kernel
theorem dX10_told_31 : decode cX10_told 31 = .ok (.lstore 6, 2) := by decide +kernel
theorem dX10_told_33 : decode cX10_told 33 = .ok (.lload 6, 2) := by decide +kernel
theorem dX10_told_35 : decode cX10_told 35 = .ok (.lconst 0, 1) := by decide +kernel
theorem dX10_told_36 : decode cX10_told 36 = .ok (.lcmp, 1) := by decide +kernel
theorem dX10_told_37 : decode cX10_told 37 = .ok (.ifCond .eq 7, 3) := by decide +kernel
theorem dX10_told_44 : decode cX10_told 44 = .ok (.iconst 0, 1) := by decide +kernel
theorem dX10_told_45 : decode cX10_told 45 = .ok (.istore 4, 2) := by decide +kernel
theorem dX10_told_47 : decode cX10_told 47 = .ok (.lload_n 2, 1) := by decide +kernel
theorem dX10_told_48 : decode cX10_told 48 = .ok (.lload 6, 2) := by decide +kernel
theorem dX10_told_50 : decode cX10_told 50 = .ok (.bipush 8, 2) := by decide +kernel
theorem dX10_told_52 : decode cX10_told 52 = .ok (.iload 5, 2) := by decide +kernel
theorem dX10_told_54 : decode cX10_told 54 = .ok (.imul, 1) := by decide +kernel
theorem dX10_told_55 : decode cX10_told 55 = .ok (.lshl, 1) := by decide +kernel
theorem dX10_told_56 : decode cX10_told 56 = .ok (.lor, 1) := by decide +kernel
theorem dX10_told_57 : decode cX10_told 57 = .ok (.lstore_n 2, 1) := by decide +kernel
theorem dX10_told_58 : decode cX10_told 58 = .ok (.iinc 5 1, 3) := by decide +kernel
theorem dX10_told_61 : decode cX10_told 61 = .ok (.goto (-53), 3) := by decide +kernel
theorem dX10_told_40 : decode cX10_told 40 = .ok (.iconst 1, 1) := by decide +kernel
theorem dX10_told_41 : decode cX10_told 41 = .ok (.goto 4, 3) := by decide +kernel
set_option maxHeartbeats 4000000 in
set_option maxRecDepth 100000 in
theorem c_X10_in (l : Launch) (D : va_G) (tA : Nat → ClassId) (b : Nat) (o n : Nat) (i F : Nat → Nat → Int32) (G : Nat → Nat → Int64) (v x y : Int64) : xMI l yX10_in cX10_in 6 (some .boolean) 0 0 D tA b o n i F G [.long v, .long x, .long y] (fun r u => u = (i, F, G) ∧ r = inI v x y) := by
  refine xstart RX10 rfl (by decide) (Nat.le_of_ble_eq_true rfl) ?_
  intro p e s m below meth c ls C0 hr hH hS hl
  have hl : lv_has ls 6 [(0, .long v), (2, .long x), (4, .long y)] := hl
  refine lv_lload_n (pc := 0) C0.1 C0.2.1 dX10_in_0 rfl (lv_at hl 0 rfl) ?_
  refine lv_lload_n (pc := 1) C0.1 C0.2.1 dX10_in_1 rfl (lv_at hl 1 rfl) ?_
  refine W.lcmp (pc := 2) C0.1 C0.2.1 dX10_in_2 ?_
  refine lv_if_lt (pc := 3) (tgt := 17) C0.1 C0.2.1 dX10_in_3 (by decide) (fun c1 => ?_) (fun c1 => ?_)
  · have c1 := (lg_cmp_lt _ _).mp c1
    refine lv_iconst (pc := 17) (v := 0) C0.1 C0.2.1 dX10_in_17 (by decide) ?_
    exact xzret (pc := 18) C0 hr hH hS dX10_in_18 (by decide) ⟨rfl, by first | exact in_f1 c1 | exact in_f2 c2 | exact in_t c1 c2⟩
  · have c1 := fun q => c1 ((lg_cmp_lt _ _).mpr q)
    refine lv_lload_n (pc := 6) C0.1 C0.2.1 dX10_in_6 rfl (lv_at hl 0 rfl) ?_
    refine lv_lload (pc := 7) C0.1 C0.2.1 dX10_in_7 (lv_at hl 2 rfl) ?_
    refine W.lcmp (pc := 9) C0.1 C0.2.1 dX10_in_9 ?_
    refine lv_if_gt (pc := 10) (tgt := 17) C0.1 C0.2.1 dX10_in_10 (by decide) (fun c2 => ?_) (fun c2 => ?_)
    · have c2 := (lg_cmp_gt _ _).mp c2
      refine lv_iconst (pc := 17) (v := 0) C0.1 C0.2.1 dX10_in_17 (by decide) ?_
      exact xzret (pc := 18) C0 hr hH hS dX10_in_18 (by decide) ⟨rfl, by first | exact in_f1 c1 | exact in_f2 c2 | exact in_t c1 c2⟩
    · have c2 := fun q => c2 ((lg_cmp_gt _ _).mpr q)
      refine lv_iconst (pc := 13) (v := 1) C0.1 C0.2.1 dX10_in_13 (by decide) ?_
      refine lv_goto (pc := 14) (tgt := 18) C0.1 C0.2.1 dX10_in_14 (by decide) ?_
      exact xzret (pc := 18) C0 hr hH hS dX10_in_18 (by decide) ⟨rfl, by first | exact in_f1 c1 | exact in_f2 c2 | exact in_t c1 c2⟩
set_option maxHeartbeats 4000000 in
set_option maxRecDepth 100000 in
theorem c_X10_told (l : Launch) (D : va_G) (tA : Nat → ClassId) (b : Nat) (o n : Nat) (i F : Nat → Nat → Int32) (G : Nat → Nat → Int64) (w : Int64) : xML l yX10_told cX10_told 8 (some .long) 0 0 D tA b o n i F G [.long w] (fun r u => u = (i, F, G) ∧ r = nmw w) := by
  refine xstart RX10 rfl (by decide) (Nat.le_of_ble_eq_true rfl) ?_
  intro p e s m below meth c ls C0 hr hH hS hl
  have hl : lv_has ls 8 [(0, .long w)] := hl
  have LOOP : ∀ (d : Nat) (k : Nat) (mo : Int32) (acc : Int64) (H : Heap) (locs : List Loc) (ls : Array Slot), (k + d = 8) → ((mo = 1 ∧ (∀ j, j < k → ¬ bt w j = 0) ∧ acc = lN (wn w % 2 ^ (8 * k))) ∨ (mo = 0 ∧ acc = nmw w)) → Hd D tA b o n zz i F G H → va_S (xA b o n) s.heap H locs → lv_has ls 8 [(5, .int (nI k)), (4, .int mo), (2, .long acc), (0, .long w)] → W p l e (xR 0 0) s m ([.long w] : List Value).toArray below meth c H locs 0 0 (MQ below (va_Ql (fun r u => u = (i, F, G) ∧ r = nmw w) (xB D tA b o n zz) (xA b o n)) ([.long w] : List Value).toArray s 0 0 (xA b o n)) (F0 m 8 ls []) := by
    intro d
    induction d with
    | zero =>
      intro k mo acc H locs ls h1 h2 hH hS hl
      refine lv_iload (pc := 8) C0.1 C0.2.1 dX10_told_8 (lv_at hl 0 rfl) ?_
      refine lv_bipush (pc := 10) (v := 8) C0.1 C0.2.1 dX10_told_10 (by decide) ?_
      refine lv_icmp_ge (pc := 12) (tgt := 64) C0.1 C0.2.1 dX10_told_12 (by decide) (fun _ => ?_) (fun c => absurd (by rw [show k = 8 by omega]; decide) c)
      refine lv_lload_n (pc := 64) C0.1 C0.2.1 dX10_told_64 rfl (lv_at hl 2 rfl) ?_
      exact xlret (pc := 65) C0 hr hH hS dX10_told_65 ⟨rfl, by first | exact h3.2 | (have hk8 : k = 8 := by omega) ; subst hk8; exact h2.elim (fun q => q.2.2.trans (tfin q.2.1)) (fun q => q.2)⟩
    | succ d ih =>
      intro k mo acc H locs ls h1 h2 hH hS hl
      refine lv_iload (pc := 8) C0.1 C0.2.1 dX10_told_8 (lv_at hl 0 rfl) ?_
      refine lv_bipush (pc := 10) (v := 8) C0.1 C0.2.1 dX10_told_10 (by decide) ?_
      refine lv_icmp_ge (pc := 12) (tgt := 64) C0.1 C0.2.1 dX10_told_12 (by decide) (fun c => absurd c (lt_nn (by omega))) (fun _ => ?_)
      refine lv_iload (pc := 15) C0.1 C0.2.1 dX10_told_15 (lv_at hl 1 rfl) ?_
      refine lv_if_eq (pc := 17) (tgt := 64) C0.1 C0.2.1 dX10_told_17 (by decide) (fun c1 => ?_) (fun c1 => ?_)
      · have h3 := h2.resolve_left (fun q => absurd (q.1.symm.trans c1) (by decide))
        refine lv_lload_n (pc := 64) C0.1 C0.2.1 dX10_told_64 rfl (lv_at hl 2 rfl) ?_
        exact xlret (pc := 65) C0 hr hH hS dX10_told_65 ⟨rfl, by first | exact h3.2 | (have hk8 : k = 8 := by omega) ; subst hk8; exact h2.elim (fun q => q.2.2.trans (tfin q.2.1)) (fun q => q.2)⟩
      · obtain ⟨h3, h4, rfl⟩ := h2.resolve_right (fun q => c1 q.1)
        refine lv_lload_n (pc := 20) C0.1 C0.2.1 dX10_told_20 rfl (lv_at hl 3 rfl) ?_
        refine lv_bipush (pc := 21) (v := 8) C0.1 C0.2.1 dX10_told_21 (by decide) ?_
        refine lv_iload (pc := 23) C0.1 C0.2.1 dX10_told_23 (lv_at hl 0 rfl) ?_
        refine lv_imul (pc := 25) C0.1 C0.2.1 dX10_told_25 ?_
        obtain ⟨x1, ex1⟩ : ∃ y : Int64, y = (w.toUInt64 >>> ((8 * (nI k)).toInt64.toUInt64 &&& Int64.toUInt64 63)).toInt64 := ⟨_, rfl⟩
        refine lv_lushr (pc := 26) (v := x1) C0.1 C0.2.1 dX10_told_26 (by rw [ex1]) ?_
        refine lv_ldc2 (pc := 27) C0.1 C0.2.1 C0.2.2.2.1 (C0.2.2.2.2.1 _ kl_X10_169) dX10_told_27 ?_
        refine lv_land (pc := 30) C0.1 C0.2.1 dX10_told_30 ?_
        refine lv_topl (fun q2 eq2 => ?_)
        obtain rfl : q2 = lN (bt w k) := by rw [eq2]; rw [ex1]; exact bt_m w (by omega)
        refine lv_lstore (pc := 31) (lv' := [(6, .long (lN (bt w k))), (5, .int (nI k)), (4, .int mo), (2, .long (lN (wn w % 2 ^ (8 * k)))), (0, .long w)]) C0.1 C0.2.1 dX10_told_31 hl (by decide) rfl (fun ls hl => ?_)
        refine lv_lload (pc := 33) C0.1 C0.2.1 dX10_told_33 (lv_at hl 0 rfl) ?_
        refine lv_lconst (pc := 35) (v := 0) C0.1 C0.2.1 dX10_told_35 (by decide) ?_
        refine W.lcmp (pc := 36) C0.1 C0.2.1 dX10_told_36 ?_
        refine lv_if_eq (pc := 37) (tgt := 44) C0.1 C0.2.1 dX10_told_37 (by decide) (fun c2 => ?_) (fun c2 => ?_)
        · have c2 := lN0 (bt_lb _ _) ((lg_cmp_eq _ _).mp c2)
          refine lv_iconst (pc := 44) (v := 0) C0.1 C0.2.1 dX10_told_44 (by decide) ?_
          refine lv_istore (pc := 45) (lv' := [(4, .int 0), (6, .long (lN (bt w k))), (5, .int (nI k)), (2, .long (lN (wn w % 2 ^ (8 * k)))), (0, .long w)]) C0.1 C0.2.1 dX10_told_45 hl (by decide) rfl (fun ls hl => ?_)
          refine lv_lload_n (pc := 47) C0.1 C0.2.1 dX10_told_47 rfl (lv_at hl 3 rfl) ?_
          refine lv_lload (pc := 48) C0.1 C0.2.1 dX10_told_48 (lv_at hl 1 rfl) ?_
          refine lv_bipush (pc := 50) (v := 8) C0.1 C0.2.1 dX10_told_50 (by decide) ?_
          refine lv_iload (pc := 52) C0.1 C0.2.1 dX10_told_52 (lv_at hl 2 rfl) ?_
          refine lv_imul (pc := 54) C0.1 C0.2.1 dX10_told_54 ?_
          obtain ⟨x3, ex3⟩ : ∃ y : Int64, y = (lN (bt w k)) <<< ((8 * (nI k)).toInt64 &&& 63) := ⟨_, rfl⟩
          refine lv_lshl (pc := 55) (v := x3) C0.1 C0.2.1 dX10_told_55 (by rw [ex3]) ?_
          refine lv_lor (pc := 56) C0.1 C0.2.1 dX10_told_56 ?_
          refine lv_topl (fun q4 eq4 => ?_)
          obtain rfl : q4 = lN (wn w % 2 ^ (8 * (k + 1))) := by rw [eq4]; rw [ex3]; exact tstep w (by omega)
          refine lv_lstore_n (pc := 57) (lv' := [(2, .long (lN (wn w % 2 ^ (8 * (k + 1))))), (4, .int 0), (6, .long (lN (bt w k))), (5, .int (nI k)), (0, .long w)]) C0.1 C0.2.1 dX10_told_57 rfl hl (by decide) rfl (fun ls hl => ?_)
          refine lv_iinc (pc := 58) (v := (nI (k + 1))) (lv' := [(5, .int (nI (k + 1))), (2, .long (lN (wn w % 2 ^ (8 * (k + 1))))), (4, .int 0), (6, .long (lN (bt w k))), (0, .long w)]) C0.1 C0.2.1 dX10_told_58 hl (k := 3) rfl (nI_1 k) (by decide) rfl (fun ls hl => ?_)
          refine lv_goto (pc := 61) (tgt := 8) C0.1 C0.2.1 dX10_told_61 (by decide) ?_
          exact ih (k + 1) 0 _ _ _ _ (by omega) (Or.inr ⟨rfl, tend (by omega) h4 c2⟩) hH hS (lv_sub hl [0, 2, 1, 4] rfl)
        · have c2 : ¬ bt w k = 0 := fun q => c2 ((lg_cmp_eq _ _).mpr (by rw [q]; rfl))
          refine lv_iconst (pc := 40) (v := 1) C0.1 C0.2.1 dX10_told_40 (by decide) ?_
          refine lv_goto (pc := 41) (tgt := 45) C0.1 C0.2.1 dX10_told_41 (by decide) ?_
          refine lv_istore (pc := 45) (lv' := [(4, .int 1), (6, .long (lN (bt w k))), (5, .int (nI k)), (2, .long (lN (wn w % 2 ^ (8 * k)))), (0, .long w)]) C0.1 C0.2.1 dX10_told_45 hl (by decide) rfl (fun ls hl => ?_)
          refine lv_lload_n (pc := 47) C0.1 C0.2.1 dX10_told_47 rfl (lv_at hl 3 rfl) ?_
          refine lv_lload (pc := 48) C0.1 C0.2.1 dX10_told_48 (lv_at hl 1 rfl) ?_
          refine lv_bipush (pc := 50) (v := 8) C0.1 C0.2.1 dX10_told_50 (by decide) ?_
          refine lv_iload (pc := 52) C0.1 C0.2.1 dX10_told_52 (lv_at hl 2 rfl) ?_
          refine lv_imul (pc := 54) C0.1 C0.2.1 dX10_told_54 ?_
          obtain ⟨x5, ex5⟩ : ∃ y : Int64, y = (lN (bt w k)) <<< ((8 * (nI k)).toInt64 &&& 63) := ⟨_, rfl⟩
          refine lv_lshl (pc := 55) (v := x5) C0.1 C0.2.1 dX10_told_55 (by rw [ex5]) ?_
          refine lv_lor (pc := 56) C0.1 C0.2.1 dX10_told_56 ?_
          refine lv_topl (fun q6 eq6 => ?_)
          obtain rfl : q6 = lN (wn w % 2 ^ (8 * (k + 1))) := by rw [eq6]; rw [ex5]; exact tstep w (by omega)
          refine lv_lstore_n (pc := 57) (lv' := [(2, .long (lN (wn w % 2 ^ (8 * (k + 1))))), (4, .int 1), (6, .long (lN (bt w k))), (5, .int (nI k)), (0, .long w)]) C0.1 C0.2.1 dX10_told_57 rfl hl (by decide) rfl (fun ls hl => ?_)
          refine lv_iinc (pc := 58) (v := (nI (k + 1))) (lv' := [(5, .int (nI (k + 1))), (2, .long (lN (wn w % 2 ^ (8 * (k + 1))))), (4, .int 1), (6, .long (lN (bt w k))), (0, .long w)]) C0.1 C0.2.1 dX10_told_58 hl (k := 3) rfl (nI_1 k) (by decide) rfl (fun ls hl => ?_)
          refine lv_goto (pc := 61) (tgt := 8) C0.1 C0.2.1 dX10_told_61 (by decide) ?_
          exact ih (k + 1) 1 _ _ _ _ (by omega) (Or.inl ⟨rfl, lt_s h4 c2, rfl⟩) hH hS (lv_sub hl [0, 2, 1, 4] rfl)
  refine lv_lconst (pc := 0) (v := 0) C0.1 C0.2.1 dX10_told_0 (by decide) ?_
  refine lv_lstore_n (pc := 1) (lv' := [(2, .long 0), (0, .long w)]) C0.1 C0.2.1 dX10_told_1 rfl hl (by decide) rfl (fun ls hl => ?_)
  refine lv_iconst (pc := 2) (v := 1) C0.1 C0.2.1 dX10_told_2 (by decide) ?_
  refine lv_istore (pc := 3) (lv' := [(4, .int 1), (2, .long 0), (0, .long w)]) C0.1 C0.2.1 dX10_told_3 hl (by decide) rfl (fun ls hl => ?_)
  refine lv_iconst (pc := 5) (v := 0) C0.1 C0.2.1 dX10_told_5 (by decide) ?_
  refine lv_istore (pc := 6) (lv' := [(5, .int 0), (4, .int 1), (2, .long 0), (0, .long w)]) C0.1 C0.2.1 dX10_told_6 hl (by decide) rfl (fun ls hl => ?_)
  exact LOOP 8 0 1 0 _ _ _ (by omega) (Or.inl ⟨rfl, fun j hj => absurd hj (Nat.not_lt_zero _), by rw [Nat.mod_one]; rfl⟩) hH hS (lv_sub hl [0, 1, 2, 3] rfl)
