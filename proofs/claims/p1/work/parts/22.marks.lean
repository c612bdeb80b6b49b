set_option maxRecDepth 20000 in
theorem cw_X9_274 : CwS RX9 274 yJ7_fill_53178 cJ7_fill_53178 4 none 2 := ⟨wm 1002 (by decide +kernel) rfl, wm 1003 (by decide +kernel) rfl, wm 19 (by decide +kernel) rfl, wm 1004 rfl rfl, by decide +kernel⟩
theorem dJ7_fill_53178_0 : decode cJ7_fill_53178 0 = .ok (.iconst 0, 1) := by decide +kernel
theorem dJ7_fill_53178_1 : decode cJ7_fill_53178 1 = .ok (.istore_n 2, 1) := by decide +kernel
theorem dJ7_fill_53178_2 : decode cJ7_fill_53178 2 = .ok (.aload_n 0, 1) := by decide +kernel
theorem dJ7_fill_53178_3 : decode cJ7_fill_53178 3 = .ok (.arraylength, 1) := by decide +kernel
theorem dJ7_fill_53178_4 : decode cJ7_fill_53178 4 = .ok (.istore_n 3, 1) := by decide +kernel
theorem dJ7_fill_53178_5 : decode cJ7_fill_53178 5 = .ok (.iload_n 2, 1) := by decide +kernel
theorem dJ7_fill_53178_6 : decode cJ7_fill_53178 6 = .ok (.iload_n 3, 1) := by decide +kernel
theorem dJ7_fill_53178_7 : decode cJ7_fill_53178 7 = .ok (.if_icmp .ge 13, 3) := by decide +kernel
theorem dJ7_fill_53178_20 : decode cJ7_fill_53178 20 = .ok (.return_, 1) := by decide +kernel
theorem dJ7_fill_53178_10 : decode cJ7_fill_53178 10 = .ok (.aload_n 0, 1) := by decide +kernel
theorem dJ7_fill_53178_11 : decode cJ7_fill_53178 11 = .ok (.iload_n 2, 1) := by decide +kernel
theorem dJ7_fill_53178_12 : decode cJ7_fill_53178 12 = .ok (.iload_n 1, 1) := by decide +kernel
theorem dJ7_fill_53178_13 : decode cJ7_fill_53178 13 = .ok (.iastore, 1) := by decide +kernel
theorem dJ7_fill_53178_14 : decode cJ7_fill_53178 14 = .ok (.iinc 2 1, 3) := by decide +kernel
theorem dJ7_fill_53178_17 : decode cJ7_fill_53178 17 = .ok (.goto (-12), 3) := by decide +kernel
theorem dX9_marks_0 : decode cX9_marks 0 = .ok (.iload_n 1, 1) := by decide +kernel
theorem dX9_marks_1 : decode cX9_marks 1 = .ok (.ifCond .ge 6, 3) := by decide +kernel
theorem dX9_marks_7 : decode cX9_marks 7 = .ok (.iload_n 1, 1) := by decide +kernel
theorem dX9_marks_8 : decode cX9_marks 8 = .ok (.sipush 200, 3) := by decide +kernel
theorem dX9_marks_11 : decode cX9_marks 11 = .ok (.if_icmp .le 6, 3) := by decide +kernel
theorem dX9_marks_17 : decode cX9_marks 17 = .ok (.aload_n 0, 1) := by decide +kernel
theorem dX9_marks_18 : decode cX9_marks 18 = .ok (.getfield 63, 3) := by decide +kernel
theorem dX9_marks_21 : decode cX9_marks 21 = .ok (.iconst 0, 1) := by decide +kernel
theorem dX9_marks_22 : decode cX9_marks 22 = .ok (.invokestatic 274, 3) := by decide +kernel
theorem dX9_marks_25 : decode cX9_marks 25 = .ok (.aload_n 0, 1) := by decide +kernel
theorem dX9_marks_26 : decode cX9_marks 26 = .ok (.iload_n 1, 1) := by decide +kernel
theorem dX9_marks_27 : decode cX9_marks 27 = .ok (.putfield 280, 3) := by decide +kernel
theorem dX9_marks_30 : decode cX9_marks 30 = .ok (.iload_n 1, 1) := by decide +kernel
theorem dX9_marks_31 : decode cX9_marks 31 = .ok (.ireturn, 1) := by decide +kernel
theorem dX9_marks_14 : decode cX9_marks 14 = .ok (.bipush (-2), 2) := by decide +kernel
theorem dX9_marks_16 : decode cX9_marks 16 = .ok (.ireturn, 1) := by decide +kernel
theorem dX9_marks_4 : decode cX9_marks 4 = .ok (.bipush (-13), 2) := by decide +kernel
theorem dX9_marks_6 : decode cX9_marks 6 = .ok (.ireturn, 1) := by decide +kernel
theorem dX10_marks_0 : decode cX10_marks 0 = .ok (.iload_n 1, 1) := by decide +kernel
theorem dX10_marks_1 : decode cX10_marks 1 = .ok (.ifCond .ge 6, 3) := by decide +kernel
theorem dX10_marks_7 : decode cX10_marks 7 = .ok (.iload_n 1, 1) := by decide +kernel
theorem dX10_marks_8 : decode cX10_marks 8 = .ok (.sipush 200, 3) := by decide +kernel
theorem dX10_marks_11 : decode cX10_marks 11 = .ok (.if_icmp .le 6, 3) := by decide +kernel
theorem dX10_marks_17 : decode cX10_marks 17 = .ok (.iconst 0, 1) := by decide +kernel
theorem dX10_marks_18 : decode cX10_marks 18 = .ok (.istore_n 2, 1) := by decide +kernel
theorem dX10_marks_14 : decode cX10_marks 14 = .ok (.bipush (-2), 2) := by decide +kernel
theorem dX10_marks_16 : decode cX10_marks 16 = .ok (.ireturn, 1) := by decide +kernel
theorem dX10_marks_4 : decode cX10_marks 4 = .ok (.bipush (-13), 2) := by decide +kernel
theorem dX10_marks_6 : decode cX10_marks 6 = .ok (.ireturn, 1) := by decide +kernel
theorem dX10_marks_19 : decode cX10_marks 19 = .ok (.iload_n 2, 1) := by decide +kernel
theorem dX10_marks_20 : decode cX10_marks 20 = .ok (.iload_n 1, 1) := by decide +kernel
theorem dX10_marks_21 : decode cX10_marks 21 = .ok (.if_icmp .ge 16, 3) := by decide +kernel
theorem dX10_marks_37 : decode cX10_marks 37 = .ok (.aload_n 0, 1) := by decide +kernel
theorem dX10_marks_38 : decode cX10_marks 38 = .ok (.iload_n 1, 1) := by decide +kernel
theorem dX10_marks_39 : decode cX10_marks 39 = .ok (.putfield 441, 3) := by decide +kernel
theorem dX10_marks_42 : decode cX10_marks 42 = .ok (.iload_n 1, 1) := by decide +kernel
theorem dX10_marks_43 : decode cX10_marks 43 = .ok (.ireturn, 1) := by decide +kernel
theorem dX10_marks_24 : decode cX10_marks 24 = .ok (.aload_n 0, 1) := by decide +kernel
theorem dX10_marks_25 : decode cX10_marks 25 = .ok (.getfield 166, 3) := by decide +kernel
theorem dX10_marks_28 : decode cX10_marks 28 = .ok (.iload_n 2, 1) := by decide +kernel
theorem dX10_marks_29 : decode cX10_marks 29 = .ok (.iconst 0, 1) := by decide +kernel
theorem dX10_marks_30 : decode cX10_marks 30 = .ok (.iastore, 1) := by decide +kernel
theorem dX10_marks_31 : decode cX10_marks 31 = .ok (.iinc 2 1, 3) := by decide +kernel
theorem dX10_marks_34 : decode cX10_marks 34 = .ok (.goto (-15), 3) := by decide +kernel
theorem xcSV {p : Program} {l : Launch} {e : Env} {R : Room} {s : State} {m : MethodId} {args : Array Value} {below : List Frame} {meth : Method} {c : Code} {H : Heap} {locs : List Loc} {cells slots : Nat} {Q : State → Prop} {cc : ByteArray} {nL : Nat} {own : String} {D : va_G} {tA : Nat → ClassId} {b o n : Nat} {A : Nat → Prop} {i F : Nat → Nat → Int32} {G : Nat → Nat → Int64} {pc : Nat} {ls : Array Slot} {rest : List Value} {y : MethodName} {bytes : ByteArray} {maxL fr lo idx : Nat} {ret : Option FieldType} {st : List Value} {post : XS → Prop} {na : Nat} (As : List Value) (hM : xMV l y bytes maxL ret fr lo D tA b o n i F G As post) (C0 : Cx p s m args meth c cc nL own D tA b o n A) (hH : Hd D tA b o n zz i F G H) (hS : va_S A s.heap H locs) (cw : CwS own idx y bytes maxL ret na) (hna : As.length = na) (hR : fr + 1 ≤ R.frames ∧ 8 + (maxL + 11) + lo ≤ R.locals) (hls : ls.size = nL) (hst : st = As.reverse ++ rest) (hro : (rest.map fun v => v.category).sum ≤ 8) (hd : decode cc pc = .ok (.invokestatic idx, 3)) (hf : cells ≤ R.cells ∧ slots ≤ R.slots)
    (kk : ∀ (i F : Nat → Nat → Int32) (G : Nat → Nat → Int64) (H : Heap) (locs : List Loc), post (i, F, G) → Hd D tA b o n zz i F G H → va_S A s.heap H locs → W p l e R s m args below meth c H locs cells slots Q (F0 m (pc + 3) ls rest)) : W p l e R s m args below meth c H locs cells slots Q (F0 m pc ls st) := by
  refine va_callv (A1 := xA b o n) (xrunS C0 hM xfb (fun U hU hW => ⟨by rw [hU]; exact hH, cxtk C0 hS hU hW⟩) cw ⟨rfl, rfl⟩ hna hR hls hst hro hd hf) hS (fun q _ h => by obtain ⟨h1, h2⟩ := h; have := C0.2.2.2.2.2.2.1 (q - b) ⟨by omega, by omega⟩; rwa [show b + (q - b) = q by omega] at this) (fun q h => by obtain ⟨h1, h2⟩ := h; have := C0.2.2.2.2.2.2.1 (q - b) ⟨by omega, by omega⟩; rwa [show b + (q - b) = q by omega] at this) (fun u t H1 l1 ht _ hp hB _ _ hS1 => ?_)
  obtain ⟨i1, F1, G1⟩ := u
  refine kk i1 F1 G1 H1 l1 hp ?_ hS1
  rw [← ht]; exact hB
set_option maxHeartbeats 4000000 in
set_option maxRecDepth 100000 in
theorem c_fill77 (l : Launch) (D : va_G) (tA : Nat → ClassId) (b : Nat) (i F : Nat → Nat → Int32) (G : Nat → Nat → Int64) : xMV l yJ7_fill_53178 cJ7_fill_53178 4 none 0 0 D tA b 0 78 i F G [.ref (b + 77), .int 0] (fun _ => True) := by
  refine xstart RJ7 rfl (by decide) (Nat.le_of_ble_eq_true rfl) ?_
  intro p e s m below meth c ls C0 hr hH hS hl
  have hl : lv_has ls 4 [(0, .ref (b + 77)), (1, .int 0)] := hl
  have LOOP : ∀ (d : Nat) (k : Nat) (F : Nat → Nat → Int32) (H : Heap) (locs : List Loc) (ls : Array Slot), (k + d = 200) → Hd D tA b 0 78 zz i F G H → va_S (xA b 0 78) s.heap H locs → lv_has ls 4 [(3, .int (nI 200)), (2, .int (nI k)), (1, .int 0), (0, .ref (b + 77))] → W p l e (xR 0 0) s m ([.ref (b + 77), .int 0] : List Value).toArray below meth c H locs 0 0 (MQ below (va_Qv (fun _ => True) (xB D tA b 0 78 zz) (xA b 0 78)) ([.ref (b + 77), .int 0] : List Value).toArray s 0 0 (xA b 0 78)) (F0 m 5 ls []) := by
    intro d
    induction d with
    | zero =>
      intro k F H locs ls h1 hH hS hl
      refine lv_iload_n (pc := 5) C0.1 C0.2.1 dJ7_fill_53178_5 rfl (lv_at hl 1 rfl) ?_
      refine lv_iload_n (pc := 6) C0.1 C0.2.1 dJ7_fill_53178_6 rfl (lv_at hl 0 rfl) ?_
      refine lv_icmp_ge (pc := 7) (tgt := 20) C0.1 C0.2.1 dJ7_fill_53178_7 (by decide) (fun _ => ?_) (fun c => absurd (by rw [show k = 200 by omega]; exact Int32.le_refl _) c)
      exact xvret (pc := 20) C0 hr hH hS dJ7_fill_53178_20 trivial
    | succ d ih =>
      intro k F H locs ls h1 hH hS hl
      refine lv_iload_n (pc := 5) C0.1 C0.2.1 dJ7_fill_53178_5 rfl (lv_at hl 1 rfl) ?_
      refine lv_iload_n (pc := 6) C0.1 C0.2.1 dJ7_fill_53178_6 rfl (lv_at hl 0 rfl) ?_
      refine lv_icmp_ge (pc := 7) (tgt := 20) C0.1 C0.2.1 dJ7_fill_53178_7 (by decide) (fun c => absurd c (nI_ge (by omega) (by decide))) (fun _ => ?_)
      refine lv_aload_n (pc := 10) C0.1 C0.2.1 dJ7_fill_53178_10 rfl (lv_at hl 3 rfl) ?_
      refine lv_iload_n (pc := 11) C0.1 C0.2.1 dJ7_fill_53178_11 rfl (lv_at hl 1 rfl) ?_
      refine lv_iload_n (pc := 12) C0.1 C0.2.1 dJ7_fill_53178_12 rfl (lv_at hl 2 rfl) ?_
      refine xiast (pc := 13) (N := 200) C0 (Nat.le_of_ble_eq_true rfl) hH hS 77 ⟨Nat.le_of_ble_eq_true rfl, Nat.le_of_ble_eq_true rfl⟩ ⟨rfl, rfl⟩ (vp_in_nI (by omega) (by decide)) dJ7_fill_53178_13 (fun _ locs hH hS _ => ?_)
      refine lv_iinc (pc := 14) (v := (nI (k + 1))) (lv' := [(2, .int (nI (k + 1))), (3, .int (nI 200)), (1, .int 0), (0, .ref (b + 77))]) C0.1 C0.2.1 dJ7_fill_53178_14 hl (k := 1) rfl (nI_1 k) (by decide) rfl (fun ls hl => ?_)
      refine lv_goto (pc := 17) (tgt := 5) C0.1 C0.2.1 dJ7_fill_53178_17 (by decide) ?_
      exact ih (k + 1) _ _ _ _ (by omega) hH hS (lv_sub hl [1, 0, 2, 3] rfl)
  refine lv_iconst (pc := 0) (v := 0) C0.1 C0.2.1 dJ7_fill_53178_0 (by decide) ?_
  refine lv_istore_n (pc := 1) (lv' := [(2, .int 0), (0, .ref (b + 77)), (1, .int 0)]) C0.1 C0.2.1 dJ7_fill_53178_1 rfl hl (by decide) rfl (fun ls hl => ?_)
  refine lv_aload_n (pc := 2) C0.1 C0.2.1 dJ7_fill_53178_2 rfl (lv_at hl 1 rfl) ?_
  refine xalen (pc := 3) (t := 50) C0 hH 77 ⟨Nat.le_of_ble_eq_true rfl, Nat.le_of_ble_eq_true rfl⟩ ⟨rfl, rfl⟩ (by decide) dJ7_fill_53178_3 ?_
  refine lv_istore_n (pc := 4) (lv' := [(3, .int (nI 200)), (2, .int 0), (0, .ref (b + 77)), (1, .int 0)]) C0.1 C0.2.1 dJ7_fill_53178_4 rfl hl (by decide) rfl (fun ls hl => ?_)
  exact LOOP 200 0 _ _ _ _ (by omega) hH hS (lv_sub hl [0, 1, 3, 2] rfl)
set_option maxHeartbeats 4000000 in
set_option maxRecDepth 100000 in
theorem p_X9_marks (l : Launch) (D : va_G) (tA : Nat → ClassId) (b : Nat) (i F : Nat → Nat → Int32) (G : Nat → Nat → Int64) (x : Int32)  : xMI l yX9_marks cX9_marks 2 (some .int) 1 23 D tA b 0 78 i F G [.ref (b + 0), .int x] (fun r _ => r = mrS x) := by
  refine xstart RX9 rfl (by decide) (Nat.le_of_ble_eq_true rfl) ?_
  intro p e s m below meth c ls C0 hr hH hS hl
  have hl : lv_has ls 2 [(0, .ref (b + 0)), (1, .int x)] := hl
  refine lv_iload_n (pc := 0) C0.1 C0.2.1 dX9_marks_0 rfl (lv_at hl 1 rfl) ?_
  refine lv_if_ge (pc := 1) (tgt := 7) C0.1 C0.2.1 dX9_marks_1 (by decide) (fun c1 => ?_) (fun c1 => ?_)
  · have : Int32.toInt 0 = 0 := rfl
    have c1 := Int32.le_iff_toInt_le.mp c1
    refine lv_iload_n (pc := 7) C0.1 C0.2.1 dX9_marks_7 rfl (lv_at hl 1 rfl) ?_
    refine lv_sipush (pc := 8) (v := 200) C0.1 C0.2.1 dX9_marks_8 (by decide) ?_
    refine lv_icmp_le (pc := 11) (tgt := 17) C0.1 C0.2.1 dX9_marks_11 (by decide) (fun c2 => ?_) (fun c2 => ?_)
    · have : Int32.toInt 200 = 200 := rfl
      have c2 := Int32.le_iff_toInt_le.mp c2
      refine lv_aload_n (pc := 17) C0.1 C0.2.1 dX9_marks_17 rfl (lv_at hl 0 rfl) ?_
      refine xget (pc := 18) C0 hH 0 12 clX9 ⟨Nat.le_of_ble_eq_true rfl, Nat.le_of_ble_eq_true rfl⟩ ⟨rfl, rfl⟩ (Nat.le_of_ble_eq_true rfl) fl_X9_63 (v := .ref (b + 77)) rfl dX9_marks_18 ?_
      refine lv_iconst (pc := 21) (v := 0) C0.1 C0.2.1 dX9_marks_21 (by decide) ?_
      refine xcSV (pc := 22) [.ref (b + 77), .int 0] (c_fill77 l D tA b i F G) C0 hH hS cw_X9_274 rfl ⟨Nat.le_of_ble_eq_true rfl, Nat.le_of_ble_eq_true rfl⟩ hl.1 rfl (Nat.le_of_ble_eq_true rfl) dX9_marks_22 ⟨Nat.le_of_ble_eq_true rfl, Nat.le_of_ble_eq_true rfl⟩ (fun ir3 Fr3 Gr3 _ locs hp hH hS => ?_)
      refine lv_aload_n (pc := 25) C0.1 C0.2.1 dX9_marks_25 rfl (lv_at hl 0 rfl) ?_
      refine lv_iload_n (pc := 26) C0.1 C0.2.1 dX9_marks_26 rfl (lv_at hl 1 rfl) ?_
      refine xputI (pc := 27) C0 (Nat.le_of_ble_eq_true rfl) hH hS 0 13 clX9 ⟨Nat.le_of_ble_eq_true rfl, Nat.le_of_ble_eq_true rfl⟩ ⟨rfl, rfl⟩ ⟨Nat.le_of_ble_eq_true rfl, rfl, rfl⟩ fl_X9_280 (x := x) ⟨rfl, rfl⟩ dX9_marks_27 (fun _ locs hH hS _ => ?_)
      have hH : Hd D tA b 0 78 zz (up2 ir3 0 13 x) Fr3 Gr3 _ := hH
      refine lv_iload_n (pc := 30) C0.1 C0.2.1 dX9_marks_30 rfl (lv_at hl 1 rfl) ?_
      exact xiret (pc := 31) C0 hr hH hS dX9_marks_31 (by unfold mrS; (repeat' split) <;> first | rfl | omega | (exfalso; omega))
    · have : Int32.toInt 200 = 200 := rfl
      have c2 : ¬ _ := fun q => c2 (Int32.le_iff_toInt_le.mpr q)
      refine lv_bipush (pc := 14) (v := (-2)) C0.1 C0.2.1 dX9_marks_14 (by decide) ?_
      exact xiret (pc := 16) C0 hr hH hS dX9_marks_16 (by unfold mrS; (repeat' split) <;> first | rfl | omega | (exfalso; omega))
  · have : Int32.toInt 0 = 0 := rfl
    have c1 : ¬ _ := fun q => c1 (Int32.le_iff_toInt_le.mpr q)
    refine lv_bipush (pc := 4) (v := (-13)) C0.1 C0.2.1 dX9_marks_4 (by decide) ?_
    exact xiret (pc := 6) C0 hr hH hS dX9_marks_6 (by unfold mrS; (repeat' split) <;> first | rfl | omega | (exfalso; omega))
set_option maxHeartbeats 4000000 in
set_option maxRecDepth 100000 in
theorem p_X10_marks (l : Launch) (D : va_G) (tA : Nat → ClassId) (b : Nat) (i F : Nat → Nat → Int32) (G : Nat → Nat → Int64) (x : Int32) : xMI l yX10_marks cX10_marks 3 (some .int) 0 0 D tA b 78 52 i F G [.ref (b + 78), .int x] (fun r _ => r = mrS x) := by
  refine xstart RX10 rfl (by decide) (Nat.le_of_ble_eq_true rfl) ?_
  intro p e s m below meth c ls C0 hr hH hS hl
  have hl : lv_has ls 3 [(0, .ref (b + 78)), (1, .int x)] := hl
  have LOOP : ∀ (d : Nat) (k : Nat) (F : Nat → Nat → Int32) (H : Heap) (locs : List Loc) (ls : Array Slot), (0 ≤ x.toInt) → (x.toInt ≤ 200) → (k + d = x.toInt.toNat) → Hd D tA b 78 52 zz i F G H → va_S (xA b 78 52) s.heap H locs → lv_has ls 3 [(2, .int (nI k)), (1, .int x), (0, .ref (b + 78))] → W p l e (xR 0 0) s m ([.ref (b + 78), .int x] : List Value).toArray below meth c H locs 0 0 (MQ below (va_Qi (fun r _ => r = mrS x) (xB D tA b 78 52 zz) (xA b 78 52)) ([.ref (b + 78), .int x] : List Value).toArray s 0 0 (xA b 78 52)) (F0 m 19 ls []) := by
    intro d
    induction d with
    | zero =>
      intro k F H locs ls h1 h2 h3 hH hS hl
      refine lv_iload_n (pc := 19) C0.1 C0.2.1 dX10_marks_19 rfl (lv_at hl 0 rfl) ?_
      refine lv_iload_n (pc := 20) C0.1 C0.2.1 dX10_marks_20 rfl (lv_at hl 1 rfl) ?_
      refine lv_icmp_ge (pc := 21) (tgt := 37) C0.1 C0.2.1 dX10_marks_21 (by decide) (fun _ => ?_) (fun c => absurd (Int32.le_iff_toInt_le.mpr (by rw [nI_toInt (by omega)]; omega)) c)
      refine lv_aload_n (pc := 37) C0.1 C0.2.1 dX10_marks_37 rfl (lv_at hl 2 rfl) ?_
      refine lv_iload_n (pc := 38) C0.1 C0.2.1 dX10_marks_38 rfl (lv_at hl 1 rfl) ?_
      refine xputI (pc := 39) C0 (Nat.le_of_ble_eq_true rfl) hH hS 78 78 clX10 ⟨Nat.le_of_ble_eq_true rfl, Nat.le_of_ble_eq_true rfl⟩ ⟨rfl, rfl⟩ ⟨Nat.le_of_ble_eq_true rfl, rfl, rfl⟩ fl_X10_441 (x := x) ⟨rfl, rfl⟩ dX10_marks_39 (fun _ locs hH hS _ => ?_)
      refine lv_iload_n (pc := 42) C0.1 C0.2.1 dX10_marks_42 rfl (lv_at hl 1 rfl) ?_
      exact xiret (pc := 43) C0 hr hH hS dX10_marks_43 (by unfold mrS; (repeat' split) <;> first | rfl | omega | (exfalso; omega))
    | succ d ih =>
      intro k F H locs ls h1 h2 h3 hH hS hl
      refine lv_iload_n (pc := 19) C0.1 C0.2.1 dX10_marks_19 rfl (lv_at hl 0 rfl) ?_
      refine lv_iload_n (pc := 20) C0.1 C0.2.1 dX10_marks_20 rfl (lv_at hl 1 rfl) ?_
      refine lv_icmp_ge (pc := 21) (tgt := 37) C0.1 C0.2.1 dX10_marks_21 (by decide) (fun c => absurd c (fun q => by have := Int32.le_iff_toInt_le.mp q; rw [nI_toInt (by omega)] at this; omega)) (fun _ => ?_)
      refine lv_aload_n (pc := 24) C0.1 C0.2.1 dX10_marks_24 rfl (lv_at hl 2 rfl) ?_
      refine xget (pc := 25) C0 hH 78 77 clX10 ⟨Nat.le_of_ble_eq_true rfl, Nat.le_of_ble_eq_true rfl⟩ ⟨rfl, rfl⟩ (Nat.le_of_ble_eq_true rfl) fl_X10_166 (v := .ref (b + 129)) rfl dX10_marks_25 ?_
      refine lv_iload_n (pc := 28) C0.1 C0.2.1 dX10_marks_28 rfl (lv_at hl 0 rfl) ?_
      refine lv_iconst (pc := 29) (v := 0) C0.1 C0.2.1 dX10_marks_29 (by decide) ?_
      refine xiast (pc := 30) (N := 200) C0 (Nat.le_of_ble_eq_true rfl) hH hS 129 ⟨Nat.le_of_ble_eq_true rfl, Nat.le_of_ble_eq_true rfl⟩ ⟨rfl, rfl⟩ (vp_in_nI (by omega) (by decide)) dX10_marks_30 (fun _ locs hH hS _ => ?_)
      refine lv_iinc (pc := 31) (v := (nI (k + 1))) (lv' := [(2, .int (nI (k + 1))), (1, .int x), (0, .ref (b + 78))]) C0.1 C0.2.1 dX10_marks_31 hl (k := 0) rfl (nI_1 k) (by decide) rfl (fun ls hl => ?_)
      refine lv_goto (pc := 34) (tgt := 19) C0.1 C0.2.1 dX10_marks_34 (by decide) ?_
      exact ih (k + 1) _ _ _ _ h1 h2 (by omega) hH hS (lv_sub hl [0, 1, 2] rfl)
  refine lv_iload_n (pc := 0) C0.1 C0.2.1 dX10_marks_0 rfl (lv_at hl 1 rfl) ?_
  refine lv_if_ge (pc := 1) (tgt := 7) C0.1 C0.2.1 dX10_marks_1 (by decide) (fun c1 => ?_) (fun c1 => ?_)
  · have : Int32.toInt 0 = 0 := rfl
    have c1 := Int32.le_iff_toInt_le.mp c1
    refine lv_iload_n (pc := 7) C0.1 C0.2.1 dX10_marks_7 rfl (lv_at hl 1 rfl) ?_
    refine lv_sipush (pc := 8) (v := 200) C0.1 C0.2.1 dX10_marks_8 (by decide) ?_
    refine lv_icmp_le (pc := 11) (tgt := 17) C0.1 C0.2.1 dX10_marks_11 (by decide) (fun c2 => ?_) (fun c2 => ?_)
    · have : Int32.toInt 200 = 200 := rfl
      have c2 := Int32.le_iff_toInt_le.mp c2
      refine lv_iconst (pc := 17) (v := 0) C0.1 C0.2.1 dX10_marks_17 (by decide) ?_
      refine lv_istore_n (pc := 18) (lv' := [(2, .int 0), (0, .ref (b + 78)), (1, .int x)]) C0.1 C0.2.1 dX10_marks_18 rfl hl (by decide) rfl (fun ls hl => ?_)
      exact LOOP x.toInt.toNat 0 _ _ _ _ (by omega) (by omega) (by omega) hH hS (lv_sub hl [0, 2, 1] rfl)
    · have : Int32.toInt 200 = 200 := rfl
      have c2 : ¬ _ := fun q => c2 (Int32.le_iff_toInt_le.mpr q)
      refine lv_bipush (pc := 14) (v := (-2)) C0.1 C0.2.1 dX10_marks_14 (by decide) ?_
      exact xiret (pc := 16) C0 hr hH hS dX10_marks_16 (by unfold mrS; (repeat' split) <;> first | rfl | omega | (exfalso; omega))
  · have : Int32.toInt 0 = 0 := rfl
    have c1 : ¬ _ := fun q => c1 (Int32.le_iff_toInt_le.mpr q)
    refine lv_bipush (pc := 4) (v := (-13)) C0.1 C0.2.1 dX10_marks_4 (by decide) ?_
    exact xiret (pc := 6) C0 hr hH hS dX10_marks_6 (by unfold mrS; (repeat' split) <;> first | rfl | omega | (exfalso; omega))
