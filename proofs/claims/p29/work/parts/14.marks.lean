set_option maxRecDepth 20000 in
theorem cw_X10_175 : CwS RX10 175 yX10_in cX10_in 6 (some .boolean) 3 := ⟨wm 1279 (by decide +kernel) rfl, wm 1280 (by decide +kernel) rfl, wm 11 (by decide +kernel) rfl, wm 1281 rfl rfl, by decide +kernel⟩
set_option maxRecDepth 20000 in
theorem cw_X10_179 : CwS RX10 179 yX10_isMark cX10_isMark 1 (some .boolean) 1 := ⟨wm 1282 (by decide +kernel) rfl, wm 1283 (by decide +kernel) rfl, wm 11 (by decide +kernel) rfl, wm 1284 rfl rfl, by decide +kernel⟩
set_option maxRecDepth 20000 in
theorem kl_X9_318 : Cond.constantLong RX9 318 256 ∈ WALL := wm 444 (by decide +kernel) rfl
set_option maxRecDepth 20000 in
theorem cw_X9_322 : CwV RX9 322 yJ0_indexOf_0f7a4 cJ0_indexOf_0f7a4 2 (some .int) 1 := ⟨wm 446 (by decide +kernel) rfl, wm 447 (by decide +kernel) rfl, wm 448 (by decide +kernel) rfl, wm 12 (by decide +kernel) rfl, wm 449 rfl rfl, by decide +kernel⟩
theorem dX10_isMark_0 : decode cX10_isMark 0 = .ok (.iload_n 0, 1) := by decide +kernel
theorem dX10_isMark_1 : decode cX10_isMark 1 = .ok (.tableswitch 385 33 124 #[383, 383, 385, 383, 383, 383, 385, 383, 383, 383, 383, 383, 383, 383, 383, 385, 385, 385, 385, 385, 385, 385, 385, 385, 385, 383, 383, 383, 383, 383, 383, 383, 385, 385, 385, 385, 385, 385, 385, 385, 385, 385, 385, 385, 385, 385, 385, 385, 385, 385, 385, 385, 385, 385, 385, 385, 385, 385, 383, 385, 383, 383, 383, 385, 385, 385, 385, 385, 385, 385, 385, 385, 385, 385, 385, 385, 385, 385, 385, 385, 385, 385, 385, 385, 385, 385, 385, 385, 385, 385, 385, 383], 383) := by decide +kernel
theorem dX10_isMark_384 : decode cX10_isMark 384 = .ok (.iconst 1, 1) := by decide +kernel
theorem dX10_isMark_385 : decode cX10_isMark 385 = .ok (.ireturn, 1) := by decide +kernel
theorem dX10_isMark_386 : decode cX10_isMark 386 = .ok (.iconst 0, 1) := by decide +kernel
theorem dX10_isMark_387 : decode cX10_isMark 387 = .ok (.ireturn, 1) := by decide +kernel
theorem dX10_isOneMark_0 : decode cX10_isOneMark 0 = .ok (.lload_n 0, 1) := by decide +kernel
theorem dX10_isOneMark_1 : decode cX10_isOneMark 1 = .ok (.lconst 1, 1) := by decide +kernel
theorem dX10_isOneMark_2 : decode cX10_isOneMark 2 = .ok (.ldc2_w 169, 3) := by decide +kernel
theorem dX10_isOneMark_5 : decode cX10_isOneMark 5 = .ok (.invokestatic 175, 3) := by decide +kernel
theorem dX10_isOneMark_8 : decode cX10_isOneMark 8 = .ok (.ifCond .eq 15, 3) := by decide +kernel
theorem dX10_isOneMark_23 : decode cX10_isOneMark 23 = .ok (.iconst 0, 1) := by decide +kernel
theorem dX10_isOneMark_24 : decode cX10_isOneMark 24 = .ok (.ireturn, 1) := by decide +kernel
theorem dX10_isOneMark_11 : decode cX10_isOneMark 11 = .ok (.lload_n 0, 1) := by decide +kernel
theorem dX10_isOneMark_12 : decode cX10_isOneMark 12 = .ok (.l2i, 1) := by decide +kernel
theorem dX10_isOneMark_13 : decode cX10_isOneMark 13 = .ok (.invokestatic 179, 3) := by decide +kernel
theorem dX10_isOneMark_16 : decode cX10_isOneMark 16 = .ok (.ifCond .eq 7, 3) := by decide +kernel
theorem dX10_isOneMark_19 : decode cX10_isOneMark 19 = .ok (.iconst 1, 1) := by decide +kernel
theorem dX10_isOneMark_20 : decode cX10_isOneMark 20 = .ok (.goto 4, 3) := by decide +kernel
theorem dX9_isMark_0 : decode cX9_isMark 0 = .ok (.lload_n 0, 1) := by decide +kernel
theorem dX9_isMark_1 : decode cX9_isMark 1 = .ok (.lconst 0, 1) := by decide +kernel
theorem dX9_isMark_2 : decode cX9_isMark 2 = .ok (.lcmp, 1) := by decide +kernel
theorem dX9_isMark_3 : decode cX9_isMark 3 = .ok (.ifCond .le 27, 3) := by decide +kernel
theorem dX9_isMark_30 : decode cX9_isMark 30 = .ok (.iconst 0, 1) := by decide +kernel
theorem dX9_isMark_31 : decode cX9_isMark 31 = .ok (.ireturn, 1) := by decide +kernel
theorem dX9_isMark_6 : decode cX9_isMark 6 = .ok (.lload_n 0, 1) := by decide +kernel
theorem dX9_isMark_7 : decode cX9_isMark 7 = .ok (.ldc2_w 318, 3) := by decide +kernel
theorem dX9_isMark_10 : decode cX9_isMark 10 = .ok (.lcmp, 1) := by decide +kernel
theorem dX9_isMark_11 : decode cX9_isMark 11 = .ok (.ifCond .ge 19, 3) := by decide +kernel
theorem dX9_isMark_14 : decode cX9_isMark 14 = .ok (.ldc_w 320, 3) := by decide +kernel
theorem dX9_isMark_17 : decode cX9_isMark 17 = .ok (.lload_n 0, 1) := by decide +kernel
theorem dX9_isMark_18 : decode cX9_isMark 18 = .ok (.l2i, 1) := by decide +kernel
theorem dX9_isMark_19 : decode cX9_isMark 19 = .ok (.i2c, 1) := by decide +kernel
theorem dX9_isMark_20 : decode cX9_isMark 20 = .ok (.invokevirtual 322, 3) := by decide +kernel
theorem dX9_isMark_23 : decode cX9_isMark 23 = .ok (.ifCond .lt 7, 3) := by decide +kernel
theorem dX9_isMark_26 : decode cX9_isMark 26 = .ok (.iconst 1, 1) := by decide +kernel
theorem dX9_isMark_27 : decode cX9_isMark 27 = .ok (.goto 4, 3) := by decide +kernel
theorem tabM : ∀ n, n < 256 → 33 ≤ n → n ≤ 124 → (#[383, 383, 385, 383, 383, 383, 385, 383, 383, 383, 383, 383, 383, 383, 383, 385, 385, 385, 385, 385, 385, 385, 385, 385, 385, 383, 383, 383, 383, 383, 383, 383, 385, 385, 385, 385, 385, 385, 385, 385, 385, 385, 385, 385, 385, 385, 385, 385, 385, 385, 385, 385, 385, 385, 385, 385, 385, 385, 383, 385, 383, 383, 383, 385, 385, 385, 385, 385, 385, 385, 385, 385, 385, 385, 385, 385, 385, 385, 385, 385, 385, 385, 385, 385, 385, 385, 385, 385, 385, 385, 385, 383] : Array Int)[n - 33]? = some (if n ∈ mkN then 383 else 385) := by decide +kernel
theorem tabO : ∀ n, n < 256 → ¬ (33 ≤ n ∧ n ≤ 124) → ¬ n ∈ mkN := by decide +kernel
theorem toNs {n : Nat} : ((n : Int) - 33).toNat = n - 33 := by omega
set_option maxHeartbeats 4000000 in
set_option maxRecDepth 100000 in
theorem c_X10_isMark (l : Launch) (D : va_G) (tA : Nat → ClassId) (b : Nat) (o n : Nat) (i F : Nat → Nat → Int32) (G : Nat → Nat → Int64) (k : Nat) (hk : k < 256) : xMI l yX10_isMark cX10_isMark 1 (some .boolean) 0 0 D tA b o n i F G [.int (nI k)] (fun r u => u = (i, F, G) ∧ r = mkb k) := by
  refine xstart RX10 rfl (by decide) (Nat.le_of_ble_eq_true rfl) ?_
  intro p e s m below meth c ls C0 hr hH hS hl
  have hl : lv_has ls 1 [(0, .int (nI k))] := hl
  have hI : (nI k).toInt = (k : Int) := nI_toInt (by omega)
  refine lv_iload_n (pc := 0) C0.1 C0.2.1 dX10_isMark_0 rfl (lv_at hl 0 rfl) ?_
  by_cases h1 : 33 ≤ k ∧ k ≤ 124
  · have ht := tabM k hk h1.1 h1.2
    by_cases h2 : k ∈ mkN
    · rw [if_pos h2] at ht
      refine lv_tableIn (pc := 1) (off := 383) (tgt := 384) C0.1 C0.2.1 dX10_isMark_1 (by rw [hI]; omega) (by rw [hI]; omega) (by rw [hI, toNs]; exact ht) (by decide) ?_
      refine lv_iconst (pc := 384) (v := 1) C0.1 C0.2.1 dX10_isMark_384 (by decide) ?_
      exact xzret (pc := 385) C0 hr hH hS dX10_isMark_385 (by decide) ⟨rfl, by unfold mkb; rw [if_pos h2]⟩
    · rw [if_neg h2] at ht
      refine lv_tableIn (pc := 1) (off := 385) (tgt := 386) C0.1 C0.2.1 dX10_isMark_1 (by rw [hI]; omega) (by rw [hI]; omega) (by rw [hI, toNs]; exact ht) (by decide) ?_
      refine lv_iconst (pc := 386) (v := 0) C0.1 C0.2.1 dX10_isMark_386 (by decide) ?_
      exact xzret (pc := 387) C0 hr hH hS dX10_isMark_387 (by decide) ⟨rfl, by unfold mkb; rw [if_neg h2]⟩
  · have h2 := tabO k hk h1
    refine lv_tableOut (pc := 1) (tgt := 386) C0.1 C0.2.1 dX10_isMark_1 (by rw [hI]; omega) (by decide) ?_
    refine lv_iconst (pc := 386) (v := 0) C0.1 C0.2.1 dX10_isMark_386 (by decide) ?_
    exact xzret (pc := 387) C0 hr hH hS dX10_isMark_387 (by decide) ⟨rfl, by unfold mkb; rw [if_neg h2]⟩
set_option maxHeartbeats 4000000 in
set_option maxRecDepth 100000 in
theorem c_X10_isOneMark (l : Launch) (D : va_G) (tA : Nat → ClassId) (b : Nat) (o n : Nat) (i F : Nat → Nat → Int32) (G : Nat → Nat → Int64) (t : Int64) : xMI l yX10_isOneMark cX10_isOneMark 2 (some .boolean) 1 25 D tA b o n i F G [.long t] (fun r u => u = (i, F, G) ∧ r = mk1 t) := by
  refine xstart RX10 rfl (by decide) (Nat.le_of_ble_eq_true rfl) ?_
  intro p e s m below meth c ls C0 hr hH hS hl
  have hl : lv_has ls 2 [(0, .long t)] := hl
  refine lv_lload_n (pc := 0) C0.1 C0.2.1 dX10_isOneMark_0 rfl (lv_at hl 0 rfl) ?_
  refine lv_lconst (pc := 1) (v := 1) C0.1 C0.2.1 dX10_isOneMark_1 (by decide) ?_
  refine lv_ldc2 (pc := 2) C0.1 C0.2.1 C0.2.2.2.1 (C0.2.2.2.2.1 _ kl_X10_169) dX10_isOneMark_2 ?_
  refine xcSI (pc := 5) [.long t, .long 1, .long 255] (c_X10_in l D tA b o n i F G t 1 255) C0 hH hS cw_X10_175 rfl ⟨Nat.le_of_ble_eq_true rfl, Nat.le_of_ble_eq_true rfl⟩ hl.1 rfl (Nat.le_of_ble_eq_true rfl) dX10_isOneMark_5 ⟨Nat.le_of_ble_eq_true rfl, Nat.le_of_ble_eq_true rfl⟩ (fun r1 ir1 Fr1 Gr1 _ locs hp hH hS => ?_)
  obtain ⟨hu, rfl⟩ := hp
  cases hu
  refine lv_if_eq (pc := 8) (tgt := 23) C0.1 C0.2.1 dX10_isOneMark_8 (by decide) (fun c1 => ?_) (fun c1 => ?_)
  · have c1 := in_0 c1
    refine lv_iconst (pc := 23) (v := 0) C0.1 C0.2.1 dX10_isOneMark_23 (by decide) ?_
    exact xzret (pc := 24) C0 hr hH hS dX10_isOneMark_24 (by decide) ⟨rfl, by unfold mk1; first | (rw [if_neg c1]; done) | (rw [if_pos c1]; first | exact mkb_r0 (by assumption) | exact mkb_r1 (by assumption))⟩
  · have c1 := in_1 c1
    refine lv_lload_n (pc := 11) C0.1 C0.2.1 dX10_isOneMark_11 rfl (lv_at hl 0 rfl) ?_
    refine lv_l2i (pc := 12) (v := t.toInt32) C0.1 C0.2.1 dX10_isOneMark_12 rfl ?_
    refine lv_topi (fun q2 eq2 => ?_)
    obtain rfl : q2 = nI (wn t) := by rw [eq2]; rw [(of255 c1.1 c1.2).2]; rw [wn_lN (wn_lt t)]; exact lN_i _
    refine xcSI (pc := 13) [.int (nI (wn t))] (c_X10_isMark l D tA b o n i F G (wn t) (of255 c1.1 c1.2).1) C0 hH hS cw_X10_179 rfl ⟨Nat.le_of_ble_eq_true rfl, Nat.le_of_ble_eq_true rfl⟩ hl.1 rfl (Nat.le_of_ble_eq_true rfl) dX10_isOneMark_13 ⟨Nat.le_of_ble_eq_true rfl, Nat.le_of_ble_eq_true rfl⟩ (fun r3 ir3 Fr3 Gr3 _ locs hp hH hS => ?_)
    obtain ⟨hu, rfl⟩ := hp
    cases hu
    refine lv_if_eq (pc := 16) (tgt := 23) C0.1 C0.2.1 dX10_isOneMark_16 (by decide) (fun c4 => ?_) (fun c4 => ?_)
    · refine lv_iconst (pc := 23) (v := 0) C0.1 C0.2.1 dX10_isOneMark_23 (by decide) ?_
      exact xzret (pc := 24) C0 hr hH hS dX10_isOneMark_24 (by decide) ⟨rfl, by unfold mk1; first | (rw [if_neg c1]; done) | (rw [if_pos c1]; first | exact mkb_r0 (by assumption) | exact mkb_r1 (by assumption))⟩
    · refine lv_iconst (pc := 19) (v := 1) C0.1 C0.2.1 dX10_isOneMark_19 (by decide) ?_
      refine lv_goto (pc := 20) (tgt := 24) C0.1 C0.2.1 dX10_isOneMark_20 (by decide) ?_
      exact xzret (pc := 24) C0 hr hH hS dX10_isOneMark_24 (by decide) ⟨rfl, by unfold mk1; first | (rw [if_neg c1]; done) | (rw [if_pos c1]; first | exact mkb_r0 (by assumption) | exact mkb_r1 (by assumption))⟩
set_option maxHeartbeats 4000000 in
set_option maxRecDepth 100000 in
theorem c_X9_isMark (l : Launch) (D : va_G) (tA : Nat → ClassId) (b : Nat) (o n : Nat) (i F : Nat → Nat → Int32) (G : Nat → Nat → Int64) (t : Int64) : xMI l yX9_isMark cX9_isMark 2 (some .boolean) 4 91 D tA b o n i F G [.long t] (fun r u => u = (i, F, G) ∧ r = mk1 t) := by
  refine xstart RX9 rfl (by decide) (Nat.le_of_ble_eq_true rfl) ?_
  intro p e s m below meth c ls C0 hr hH hS hl
  have hl : lv_has ls 2 [(0, .long t)] := hl
  refine lv_lload_n (pc := 0) C0.1 C0.2.1 dX9_isMark_0 rfl (lv_at hl 0 rfl) ?_
  refine lv_lconst (pc := 1) (v := 0) C0.1 C0.2.1 dX9_isMark_1 (by decide) ?_
  refine W.lcmp (pc := 2) C0.1 C0.2.1 dX9_isMark_2 ?_
  refine lv_if_le (pc := 3) (tgt := 30) C0.1 C0.2.1 dX9_isMark_3 (by decide) (fun c1 => ?_) (fun c1 => ?_)
  · have c1 := (lg_cmp_le _ _).mp c1
    refine lv_iconst (pc := 30) (v := 0) C0.1 C0.2.1 dX9_isMark_30 (by decide) ?_
    exact xzret (pc := 31) C0 hr hH hS dX9_isMark_31 (by decide) ⟨rfl, by unfold mk1; first | (rw [if_neg (fun q => absurd q (nb1 c1))]; done) | (rw [if_neg (fun q => absurd q (nb2 c2))]; done) | (rw [if_pos hb]; first | exact mkb_i0 hk (by assumption) | exact mkb_i1 hk (by assumption))⟩
  · have c1 := fun q => c1 ((lg_cmp_le _ _).mpr q)
    refine lv_lload_n (pc := 6) C0.1 C0.2.1 dX9_isMark_6 rfl (lv_at hl 0 rfl) ?_
    refine lv_ldc2 (pc := 7) C0.1 C0.2.1 C0.2.2.2.1 (C0.2.2.2.2.1 _ kl_X9_318) dX9_isMark_7 ?_
    refine W.lcmp (pc := 10) C0.1 C0.2.1 dX9_isMark_10 ?_
    refine lv_if_ge (pc := 11) (tgt := 30) C0.1 C0.2.1 dX9_isMark_11 (by decide) (fun c2 => ?_) (fun c2 => ?_)
    · have c2 := (lg_cmp_ge _ _).mp c2
      refine lv_iconst (pc := 30) (v := 0) C0.1 C0.2.1 dX9_isMark_30 (by decide) ?_
      exact xzret (pc := 31) C0 hr hH hS dX9_isMark_31 (by decide) ⟨rfl, by unfold mk1; first | (rw [if_neg (fun q => absurd q (nb1 c1))]; done) | (rw [if_neg (fun q => absurd q (nb2 c2))]; done) | (rw [if_pos hb]; first | exact mkb_i0 hk (by assumption) | exact mkb_i1 hk (by assumption))⟩
    · have c2 := fun q => c2 ((lg_cmp_ge _ _).mpr q)
      refine xldcw (pc := 14) C0 (cxSK C0).2.1 dX9_isMark_14 ?_
      refine lv_lload_n (pc := 17) C0.1 C0.2.1 dX9_isMark_17 rfl (lv_at hl 0 rfl) ?_
      have hb := bnd c1 c2
      have hk := (of255 hb.1 hb.2).1
      refine lv_l2i (pc := 18) (v := t.toInt32) C0.1 C0.2.1 dX9_isMark_18 rfl ?_
      refine lv_topi (fun q3 eq3 => ?_)
      obtain rfl : q3 = nI (wn t) := by rw [eq3]; rw [(of255 hb.1 hb.2).2]; rw [wn_lN (wn_lt t)]; exact lN_i _
      refine lv_i2c (pc := 19) (v := ((nI (wn t)).toUInt32 % 65536).toInt32) C0.1 C0.2.1 dX9_isMark_19 rfl ?_
      refine lv_topi (fun q4 eq4 => ?_)
      obtain rfl : q4 = nI (wn t) := by rw [eq4]; exact (pk_char _).trans (by rw [pk_tn (by omega), Nat.mod_eq_of_lt (by omega)])
      refine xcVS (pc := 20) [.int (nI (wn t))] (c_J0_indexOf1 l D tA b o n i F G (wn t) hk) C0 hH hS rfl cw_X9_322 rfl ⟨Nat.le_of_ble_eq_true rfl, Nat.le_of_ble_eq_true rfl⟩ hl.1 rfl (Nat.le_of_ble_eq_true rfl) dX9_isMark_20 ⟨Nat.le_of_ble_eq_true rfl, Nat.le_of_ble_eq_true rfl⟩ (fun r5 ir5 Fr5 Gr5 _ locs hp hH hS => ?_)
      obtain ⟨hu, rfl⟩ := hp
      cases hu
      refine lv_if_lt (pc := 23) (tgt := 30) C0.1 C0.2.1 dX9_isMark_23 (by decide) (fun c6 => ?_) (fun c6 => ?_)
      · refine lv_iconst (pc := 30) (v := 0) C0.1 C0.2.1 dX9_isMark_30 (by decide) ?_
        exact xzret (pc := 31) C0 hr hH hS dX9_isMark_31 (by decide) ⟨rfl, by unfold mk1; first | (rw [if_neg (fun q => absurd q (nb1 c1))]; done) | (rw [if_neg (fun q => absurd q (nb2 c2))]; done) | (rw [if_pos hb]; first | exact mkb_i0 hk (by assumption) | exact mkb_i1 hk (by assumption))⟩
      · refine lv_iconst (pc := 26) (v := 1) C0.1 C0.2.1 dX9_isMark_26 (by decide) ?_
        refine lv_goto (pc := 27) (tgt := 31) C0.1 C0.2.1 dX9_isMark_27 (by decide) ?_
        exact xzret (pc := 31) C0 hr hH hS dX9_isMark_31 (by decide) ⟨rfl, by unfold mk1; first | (rw [if_neg (fun q => absurd q (nb1 c1))]; done) | (rw [if_neg (fun q => absurd q (nb2 c2))]; done) | (rw [if_pos hb]; first | exact mkb_i0 hk (by assumption) | exact mkb_i1 hk (by assumption))⟩
