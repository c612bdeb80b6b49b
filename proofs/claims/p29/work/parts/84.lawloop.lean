set_option maxRecDepth 20000 in
theorem in_X9 : Cond.instantiable RX9 14 ∈ WALL := wm 21 (by decide +kernel) rfl
set_option maxRecDepth 20000 in
theorem it_X9 : Cond.initialized RX9 ∈ WALL := wm 1 (by decide +kernel) rfl
set_option maxRecDepth 20000 in
theorem im_X9_init : Cond.instanceMethod yX9_init ∈ WALL := wm 23 (by decide +kernel) rfl
set_option maxRecDepth 20000 in
theorem cd_X9_init : Cond.code yX9_init cX9_init 1 none ∈ WALL := wm 24 rfl rfl
set_option maxRecDepth 20000 in
theorem in_X10 : Cond.instantiable RX10 79 ∈ WALL := wm 1019 (by decide +kernel) rfl
set_option maxRecDepth 20000 in
theorem it_X10 : Cond.initialized RX10 ∈ WALL := wm 11 (by decide +kernel) rfl
set_option maxRecDepth 20000 in
theorem im_X10_init : Cond.instanceMethod yX10_init ∈ WALL := wm 1021 (by decide +kernel) rfl
set_option maxRecDepth 20000 in
theorem cd_X10_init : Cond.code yX10_init cX10_init 1 none ∈ WALL := wm 1022 rfl rfl
set_option maxRecDepth 20000 in
theorem cl_L_7 : Cond.classLink RL 7 RX9 ∈ WALL := wm 20 (by decide +kernel) rfl
set_option maxRecDepth 20000 in
theorem cl_L_10 : Cond.classLink RL 10 RX10 ∈ WALL := wm 1018 (by decide +kernel) rfl
set_option maxRecDepth 20000 in
theorem ml_L_9 : Cond.methodLink RL 9 yX9_init ∈ WALL := wm 22 (by decide +kernel) rfl
set_option maxRecDepth 20000 in
theorem ml_L_12 : Cond.methodLink RL 12 yX10_init ∈ WALL := wm 1020 (by decide +kernel) rfl
theorem dL_law_0 : decode cL_law 0 = .ok (.new 7, 3) := by decide +kernel
theorem dL_law_3 : decode cL_law 3 = .ok (.dup, 1) := by decide +kernel
theorem dL_law_4 : decode cL_law 4 = .ok (.invokespecial 9, 3) := by decide +kernel
theorem dL_law_7 : decode cL_law 7 = .ok (.astore_n 1, 1) := by decide +kernel
theorem dL_law_8 : decode cL_law 8 = .ok (.new 10, 3) := by decide +kernel
theorem dL_law_11 : decode cL_law 11 = .ok (.dup, 1) := by decide +kernel
theorem dL_law_12 : decode cL_law 12 = .ok (.invokespecial 12, 3) := by decide +kernel
theorem dL_law_15 : decode cL_law 15 = .ok (.astore_n 2, 1) := by decide +kernel
theorem dL_law_16 : decode cL_law 16 = .ok (.iconst 0, 1) := by decide +kernel
theorem dL_law_17 : decode cL_law 17 = .ok (.istore_n 3, 1) := by decide +kernel
theorem xnewoK {p : Program} {l : Launch} {e : Env} {R : Room} {s : State} {m : MethodId} {args : Array Value} {below : List Frame} {meth : Method} {c : Code} {H : Heap} {locs : List Loc} {cells slots : Nat} {Q : State → Prop} {cc : ByteArray} {nL : Nat} {own : String} {D : va_G} {tA : Nat → ClassId} {b o n0 o2 n2 : Nat} {A : Nat → Prop} {z : Nat → Nat → Bool} {i F i2 F2 : Nat → Nat → Int32} {G G2 : Nat → Nat → Int64} {pc : Nat} {ls : Array Slot} {rest : List Value} {H0 : Heap} {N idx ci : Nat} {Cn : String} {T : u_T} {ty0 : Nat → FieldType} (C0 : Cx p s m args meth c cc nL own D tA b o n0 A) (hH2 : Hd D tA b o2 n2 zz i2 F2 G2 H) (hsz : H.size = b + o) (hap : o2 + n2 ≤ o) (hS : va_S A H0 H locs) (cl : Cl ci Cn T ty0 N) (hcl : Cond.classLink own idx Cn ∈ WALL) (hinst : Cond.instantiable Cn N ∈ WALL) (hini : Cond.initialized Cn ∈ WALL) (hc : ckd o = ci ∧ cnn o = N) (h0 : ∀ j, j < N → defaultValue (ty0 j) = xV b z i o j) (hcs : cells + 1 ≤ R.cells ∧ slots + N ≤ R.slots) (hd : decode cc pc = .ok (.new idx, 3))
    (kk : ∀ H : Heap, Hd D tA b o 1 z i F G H → Hd D tA b o2 n2 zz i2 F2 G2 H → H.size = b + (o + 1) → va_S A H0 H locs → W p l e R s m args below meth c H locs (cells + 1) (slots + N) Q (F0 m (pc + 3) ls (.ref (b + o) :: rest))) : W p l e R s m args below meth c H locs cells slots Q (F0 m pc ls rest) := by
  obtain ⟨hx, hb, hml, hown, hts, hT, hA, hlk⟩ := C0
  obtain ⟨cl, ct1, ct2, h3⟩ := cl
  have hKn := hT.1.1 ci _ cl.1
  refine W.newcK hx hb hown (hts _ hcl) (hts _ hinst) (hts _ hini) rfl hd hcs.1 hcs.2 hKn.2.1 hsz fun H1 kC hkC e1 z1 o1 => ?_
  refine kk H1 ?_ (hH2.kept (fun a ha => o1 _ (by omega))) (by omega) ⟨Nat.le_trans hS.1 (by omega), fun q h1 h2 => (o1 q (by have := hS.1; omega)).trans (hS.2.1 q h1 h2), hS.2.2⟩
  intro k q hq
  have hl : k < 1 := by have := (List.getElem?_eq_some_iff.mp hq).1; simpa [wl] using this
  have h9 := wl_at (b := b) (tA := tA) (z := z) (i := i) (F := F) (G := G) (o := o) (n := 1) (k := o + k) (by omega)
  rw [show o + k - o = k by omega, hq] at h9
  obtain rfl := Option.some.inj h9
  have hk : k = 0 := by omega
  subst hk
  show va_at D vwCl (b + (o + 0), xE b tA z i F G (o + 0)) H1
  rw [Nat.add_zero, xE_o (by omega), hc.1, hc.2]
  refine ⟨_, cl.1, (u_born ty0 hts cl.2 hKn hkC e1 ct1).to (fun j hj => ?_)⟩
  rw [h0 j hj]
  simp [vp_V, hj]
theorem xcIK {p : Program} {l : Launch} {e : Env} {R : Room} {s : State} {m : MethodId} {args : Array Value} {below : List Frame} {meth : Method} {c : Code} {H : Heap} {locs : List Loc} {cells slots : Nat} {Q : State → Prop} {cc : ByteArray} {nL : Nat} {own : String} {D : va_G} {tA : Nat → ClassId} {b o n n0 o9 n9 : Nat} {A : Nat → Prop} {z : Nat → Nat → Bool} {i F i9 F9 : Nat → Nat → Int32} {G G9 : Nat → Nat → Int64} {pc : Nat} {ls : Array Slot} {rest : List Value} {y : MethodName} {bytes : ByteArray} {maxL fr lo idx mc ms n2 : Nat} {st : List Value} {z2 : Nat → Nat → Bool} {i2 F2 : Nat → Nat → Int32} (k : Nat) (hM : xMC l y bytes maxL fr lo mc ms D tA b o n z i F G k n2 z2 i2 F2) (C0 : Cx p s m args meth c cc nL own D tA b o n0 A) (hn : n2 ≤ n0) (hH : Hd D tA b o n z i F G H) (hH2 : Hd D tA b o9 n9 zz i9 F9 G9 H) (hap : o9 + n9 ≤ o) (hsz : H.size = b + (o + n)) (hS : va_S A s.heap H locs) (w1 : Cond.methodLink own idx y ∈ WALL) (w4 : Cond.initialized y.cls ∈ WALL) (w5 : Cond.code y bytes maxL none ∈ WALL) (w6 : y.cls ≠ "java/lang/invoke/MethodHandle" ∧ y.cls ≠ "java/lang/invoke/VarHandle" ∧ (parseMethodDescriptor y.desc).map (fun d => d.parameters.length) = some 0) (hy : y.name = "<init>") (hin : Cond.instanceMethod y ∈ WALL) (hR : fr + 1 ≤ R.frames ∧ 8 + (maxL + 11) + lo ≤ R.locals) (hls : ls.size = nL) (hst : st = .ref (b + k) :: rest) (hro : (rest.map fun v => v.category).sum ≤ 8) (hd : decode cc pc = .ok (.invokespecial idx, 3)) (hf : cells + mc ≤ R.cells ∧ slots + ms ≤ R.slots)
    (kk : ∀ (H : Heap) (locs : List Loc), Hd D tA b o n2 z2 i2 F2 G H → Hd D tA b o9 n9 zz i9 F9 G9 H → H.size = b + (o + n2) → va_S A s.heap H locs → W p l e R s m args below meth c H locs (cells + mc) (slots + ms) Q (F0 m (pc + 3) ls rest)) : W p l e R s m args below meth c H locs cells slots Q (F0 m pc ls st) := by
  have hAA : ∀ q, xA b o n2 q → A q := fun q h => by obtain ⟨h1, h2⟩ := h; have := C0.2.2.2.2.2.2.1 (q - b) ⟨by omega, by omega⟩; rwa [show b + (q - b) = q by omega] at this
  refine va_callv (A1 := xA b o n2) (xrunI (As := []) C0 hM xcfb (fun U hU hW => ⟨by rw [hU]; exact hH, by rw [hU]; exact hsz, cxtk C0 hS hU hW⟩) w1 w4 w5 w6 hy hin ⟨rfl, rfl⟩ rfl hR hls hst hro hd hf) hS (fun q _ h => hAA q h) (fun q h => hAA q h) (fun u t H1 l1 ht _ hp hB _ hkp hS1 => ?_)
  exact kk H1 l1 (by rw [← ht]; exact hB.1) (hH2.kept (fun a ha => hkp _ (hH2.lt ha) (fun q => by obtain ⟨q1, q2⟩ := q; omega))) (by rw [← ht]; exact hB.2) hS1

set_option maxHeartbeats 4000000 in
set_option maxRecDepth 100000 in
/-- the loop, by what is left of the script -/
theorem law_loop {p : Program} {l : Launch} {e : Env} {s : State} {m : MethodId} {below : List Frame} {meth : Method} {c : Code} {D : va_G} {tA : Nat → ClassId} {b sb : Nat} {xs : Nat → Int32} {L : Nat} (C : LW p s m meth c D tA b sb L xs) : ∀ (d : Nat) (k : Int32) (uC uM : XS) (H : Heap) (locs : List Loc) (ls : Array Slot), (L : Int) - k.toInt ≤ d → 0 ≤ k.toInt → k.toInt ≤ 4096 → LI uC uM → Hd D tA b 0 78 zz uC.1 uC.2.1 uC.2.2 H → Hd D tA b 78 52 zz uM.1 uM.2.1 uM.2.2 H → va_S (Sb b) s.heap H locs → lv_has ls 4 [(3, .int k), (2, .ref (b + 78)), (1, .ref (b + 0)), (0, .ref sb)] → W p l e room_1 s m #[Value.ref sb] below meth c H locs 130 99576 (lw_Z below #[Value.ref sb] s) (F0 m 18 ls []) := by
  obtain ⟨hL, C0, C2, hX, hbl, hb, hr, hlk⟩ := id C
  have hbA : ¬ Sb b sb := by unfold Sb; omega
  have h4 : Int32.toInt 4 = 4 := rfl
  have hnL : (Int32.ofNat L).toInt = (L : Int) := nI_toInt (by omega)
  have hlen : (Int32.ofNat L - 4).toInt = (L : Int) - 4 := (fb_subI (by omega) (by omega)).trans (by rw [hnL, h4])
  intro d
  induction d with
  | zero =>
    intro k uC uM H locs ls hd h0 h9 hLI hC hM hS hl
    refine lv_iload_n (pc := 18) C0.1 C0.2.1 dL_law_18 rfl (lv_at hl 0 rfl) ?_
    refine lv_aload_n (pc := 19) C0.1 C0.2.1 dL_law_19 rfl (lv_at hl 3 rfl) ?_
    refine va_slen (pc := 20) C0.1 C0.2.1 hX hbl hbA hS dL_law_20 ?_
    refine lv_iconst (pc := 21) (v := 4) C0.1 C0.2.1 dL_law_21 (by decide) ?_
    refine lv_isub (pc := 22) C0.1 C0.2.1 dL_law_22 ?_
    refine lv_icmp_gt (pc := 23) (tgt := 1020) C0.1 C0.2.1 dL_law_23 (by decide) (fun _ => ?_) (fun c => absurd (Int32.lt_iff_toInt_lt.mpr (by rw [hlen]; omega)) c)
    exact law_out C hS
  | succ d ih =>
    intro k uC uM H locs ls hd h0 h9 hLI hC hM hS hl
    refine lv_iload_n (pc := 18) C0.1 C0.2.1 dL_law_18 rfl (lv_at hl 0 rfl) ?_
    refine lv_aload_n (pc := 19) C0.1 C0.2.1 dL_law_19 rfl (lv_at hl 3 rfl) ?_
    refine va_slen (pc := 20) C0.1 C0.2.1 hX hbl hbA hS dL_law_20 ?_
    refine lv_iconst (pc := 21) (v := 4) C0.1 C0.2.1 dL_law_21 (by decide) ?_
    refine lv_isub (pc := 22) C0.1 C0.2.1 dL_law_22 ?_
    by_cases hlt : k.toInt + 4 ≤ (L : Int)
    · refine lv_icmp_gt (pc := 23) (tgt := 1020) C0.1 C0.2.1 dL_law_23 (by decide) (fun c => absurd (Int32.lt_iff_toInt_lt.mp c) (by rw [hlen]; omega)) (fun _ => ?_)
      have NX : ∀ (uC uM : XS) (H : Heap) (locs : List Loc) (ls : Array Slot), LI uC uM → Hd D tA b 0 78 zz uC.1 uC.2.1 uC.2.2 H → Hd D tA b 78 52 zz uM.1 uM.2.1 uM.2.2 H → va_S (Sb b) s.heap H locs → lv_has ls 4 [(3, .int k), (2, .ref (b + 78)), (1, .ref (b + 0)), (0, .ref sb)] → W p l e room_1 s m #[Value.ref sb] below meth c H locs 130 99576 (lw_Z below #[Value.ref sb] s) (F0 m 1014 ls []) := by
        intro uC uM H locs ls hLI hC hM hS hl
        obtain ⟨k2, ek2⟩ : ∃ y : Int32, y = k + 4 := ⟨_, rfl⟩
        have hk2 : k2.toInt = k.toInt + 4 := by rw [ek2]; exact (fb_addI (by omega) (by omega)).trans (by rw [h4])
        refine lv_iinc (pc := 1014) (v := k2) (lv' := [(3, .int k2), (2, .ref (b + 78)), (1, .ref (b + 0)), (0, .ref sb)]) C0.1 C0.2.1 dL_law_1014 hl (k := 0) rfl (by rw [ek2]; rfl) (by decide) rfl (fun ls hl => ?_)
        refine lv_goto (pc := 1017) (tgt := 18) C0.1 C0.2.1 dL_law_1017 (by decide) ?_
        exact ih k2 uC uM _ _ _ (by omega) (by omega) (by omega) hLI hC hM hS hl
      refine lv_aload_n (pc := 26) C0.1 C0.2.1 dL_law_26 rfl (lv_at hl 3 rfl) ?_
      refine lv_iload_n (pc := 27) C0.1 C0.2.1 dL_law_27 rfl (lv_at hl 0 rfl) ?_
      refine va_sld (pc := 28) C0.1 C0.2.1 hX hbl hbA hS (i := k) (vI (by omega) (by omega)) dL_law_28 ?_
      refine lv_bipush (pc := 29) (v := 31) C0.1 C0.2.1 dL_law_29 (by decide) ?_
      refine lv_iand (pc := 31) C0.1 C0.2.1 dL_law_31 ?_
      obtain ⟨j, hj, ej⟩ := pk_andE (xs (Int32.toNatClampNeg k)) (m := 31) 5 rfl
      refine lv_topi (fun y ey => ?_)
      rw [ej] at ey
      have hI : (nI j).toInt = (j : Int) := nI_toInt (by omega)
      subst ey
      rcases (show j = 0 ∨ j = 1 ∨ j = 2 ∨ j = 3 ∨ j = 4 ∨ j = 5 ∨ j = 6 ∨ j = 7 ∨ j = 8 ∨ j = 9 ∨ j = 10 ∨ j = 11 ∨ j = 12 ∨ j = 13 ∨ j = 14 ∨ j = 15 ∨ j = 16 ∨ j = 17 ∨ j = 18 ∨ j = 19 ∨ j = 20 ∨ j = 21 ∨ j = 22 ∨ j = 23 ∨ j = 24 ∨ j = 25 ∨ j = 26 ∨ j = 27 ∨ j = 28 ∨ j = 29 ∨ j = 30 ∨ j = 31 by omega) with rfl | rfl | rfl | rfl | rfl | rfl | rfl | rfl | rfl | rfl | rfl | rfl | rfl | rfl | rfl | rfl | rfl | rfl | rfl | rfl | rfl | rfl | rfl | rfl | rfl | rfl | rfl | rfl | rfl | rfl | rfl | rfl
      · refine lv_tableIn (pc := 32) (off := 136) (tgt := 168) C0.1 C0.2.1 dL_law_32 (by rw [hI]; omega) (by rw [hI]; omega) (by rw [hI]; rfl) (by decide) ?_
        exact law_0 C ⟨h0, hlt⟩ hLI hC hM hS hl NX
      · refine lv_tableIn (pc := 32) (off := 199) (tgt := 231) C0.1 C0.2.1 dL_law_32 (by rw [hI]; omega) (by rw [hI]; omega) (by rw [hI]; rfl) (by decide) ?_
        exact law_1 C ⟨h0, hlt⟩ hLI hC hM hS hl NX
      · refine lv_tableIn (pc := 32) (off := 232) (tgt := 264) C0.1 C0.2.1 dL_law_32 (by rw [hI]; omega) (by rw [hI]; omega) (by rw [hI]; rfl) (by decide) ?_
        exact law_2 C ⟨h0, hlt⟩ hLI hC hM hS hl NX
      · refine lv_tableIn (pc := 32) (off := 285) (tgt := 317) C0.1 C0.2.1 dL_law_32 (by rw [hI]; omega) (by rw [hI]; omega) (by rw [hI]; rfl) (by decide) ?_
        exact law_3 C ⟨h0, hlt⟩ hLI hC hM hS hl NX
      · refine lv_tableIn (pc := 32) (off := 308) (tgt := 340) C0.1 C0.2.1 dL_law_32 (by rw [hI]; omega) (by rw [hI]; omega) (by rw [hI]; rfl) (by decide) ?_
        exact law_4 C ⟨h0, hlt⟩ hLI hC hM hS hl NX
      · refine lv_tableIn (pc := 32) (off := 331) (tgt := 363) C0.1 C0.2.1 dL_law_32 (by rw [hI]; omega) (by rw [hI]; omega) (by rw [hI]; rfl) (by decide) ?_
        exact law_5 C ⟨h0, hlt⟩ hLI hC hM hS hl NX
      · refine lv_tableIn (pc := 32) (off := 384) (tgt := 416) C0.1 C0.2.1 dL_law_32 (by rw [hI]; omega) (by rw [hI]; omega) (by rw [hI]; rfl) (by decide) ?_
        exact law_6 C ⟨h0, hlt⟩ hLI hC hM hS hl NX
      · refine lv_tableIn (pc := 32) (off := 407) (tgt := 439) C0.1 C0.2.1 dL_law_32 (by rw [hI]; omega) (by rw [hI]; omega) (by rw [hI]; rfl) (by decide) ?_
        exact law_7 C ⟨h0, hlt⟩ hLI hC hM hS hl NX
      · refine lv_tableIn (pc := 32) (off := 440) (tgt := 472) C0.1 C0.2.1 dL_law_32 (by rw [hI]; omega) (by rw [hI]; omega) (by rw [hI]; rfl) (by decide) ?_
        exact law_8 C ⟨h0, hlt⟩ hLI hC hM hS hl NX
      · refine lv_tableIn (pc := 32) (off := 453) (tgt := 485) C0.1 C0.2.1 dL_law_32 (by rw [hI]; omega) (by rw [hI]; omega) (by rw [hI]; rfl) (by decide) ?_
        exact law_9 C ⟨h0, hlt⟩ hLI hC hM hS hl NX
      · refine lv_tableIn (pc := 32) (off := 476) (tgt := 508) C0.1 C0.2.1 dL_law_32 (by rw [hI]; omega) (by rw [hI]; omega) (by rw [hI]; rfl) (by decide) ?_
        exact law_10 C ⟨h0, hlt⟩ hLI hC hM hS hl NX
      · refine lv_tableIn (pc := 32) (off := 489) (tgt := 521) C0.1 C0.2.1 dL_law_32 (by rw [hI]; omega) (by rw [hI]; omega) (by rw [hI]; rfl) (by decide) ?_
        exact law_11 C ⟨h0, hlt⟩ hLI hC hM hS hl NX
      · refine lv_tableIn (pc := 32) (off := 512) (tgt := 544) C0.1 C0.2.1 dL_law_32 (by rw [hI]; omega) (by rw [hI]; omega) (by rw [hI]; rfl) (by decide) ?_
        exact law_12 C ⟨h0, hlt⟩ hLI hC hM hS hl NX
      · refine lv_tableIn (pc := 32) (off := 535) (tgt := 567) C0.1 C0.2.1 dL_law_32 (by rw [hI]; omega) (by rw [hI]; omega) (by rw [hI]; rfl) (by decide) ?_
        exact law_13 C ⟨h0, hlt⟩ hLI hC hM hS hl NX
      · refine lv_tableIn (pc := 32) (off := 568) (tgt := 600) C0.1 C0.2.1 dL_law_32 (by rw [hI]; omega) (by rw [hI]; omega) (by rw [hI]; rfl) (by decide) ?_
        exact law_14 C ⟨h0, hlt⟩ hLI hC hM hS hl NX
      · refine lv_tableIn (pc := 32) (off := 601) (tgt := 633) C0.1 C0.2.1 dL_law_32 (by rw [hI]; omega) (by rw [hI]; omega) (by rw [hI]; rfl) (by decide) ?_
        exact law_15 C ⟨h0, hlt⟩ hLI hC hM hS hl NX
      · refine lv_tableIn (pc := 32) (off := 634) (tgt := 666) C0.1 C0.2.1 dL_law_32 (by rw [hI]; omega) (by rw [hI]; omega) (by rw [hI]; rfl) (by decide) ?_
        exact law_16 C ⟨h0, hlt⟩ hLI hC hM hS hl NX
      · refine lv_tableIn (pc := 32) (off := 667) (tgt := 699) C0.1 C0.2.1 dL_law_32 (by rw [hI]; omega) (by rw [hI]; omega) (by rw [hI]; rfl) (by decide) ?_
        exact law_17 C ⟨h0, hlt⟩ hLI hC hM hS hl NX
      · refine lv_tableIn (pc := 32) (off := 710) (tgt := 742) C0.1 C0.2.1 dL_law_32 (by rw [hI]; omega) (by rw [hI]; omega) (by rw [hI]; rfl) (by decide) ?_
        exact law_18 C ⟨h0, hlt⟩ hLI hC hM hS hl NX
      · refine lv_tableIn (pc := 32) (off := 769) (tgt := 801) C0.1 C0.2.1 dL_law_32 (by rw [hI]; omega) (by rw [hI]; omega) (by rw [hI]; rfl) (by decide) ?_
        exact law_19 C ⟨h0, hlt⟩ hLI hC hM hS hl NX
      · refine lv_tableIn (pc := 32) (off := 802) (tgt := 834) C0.1 C0.2.1 dL_law_32 (by rw [hI]; omega) (by rw [hI]; omega) (by rw [hI]; rfl) (by decide) ?_
        exact law_20 C ⟨h0, hlt⟩ hLI hC hM hS hl NX
      · refine lv_tableIn (pc := 32) (off := 815) (tgt := 847) C0.1 C0.2.1 dL_law_32 (by rw [hI]; omega) (by rw [hI]; omega) (by rw [hI]; rfl) (by decide) ?_
        exact law_21 C ⟨h0, hlt⟩ hLI hC hM hS hl NX
      · refine lv_tableIn (pc := 32) (off := 838) (tgt := 870) C0.1 C0.2.1 dL_law_32 (by rw [hI]; omega) (by rw [hI]; omega) (by rw [hI]; rfl) (by decide) ?_
        exact law_22 C ⟨h0, hlt⟩ hLI hC hM hS hl NX
      · refine lv_tableIn (pc := 32) (off := 861) (tgt := 893) C0.1 C0.2.1 dL_law_32 (by rw [hI]; omega) (by rw [hI]; omega) (by rw [hI]; rfl) (by decide) ?_
        exact law_23 C ⟨h0, hlt⟩ hLI hC hM hS hl NX
      · refine lv_tableIn (pc := 32) (off := 874) (tgt := 906) C0.1 C0.2.1 dL_law_32 (by rw [hI]; omega) (by rw [hI]; omega) (by rw [hI]; rfl) (by decide) ?_
        exact law_24 C ⟨h0, hlt⟩ hLI hC hM hS hl NX
      · refine lv_tableIn (pc := 32) (off := 887) (tgt := 919) C0.1 C0.2.1 dL_law_32 (by rw [hI]; omega) (by rw [hI]; omega) (by rw [hI]; rfl) (by decide) ?_
        exact law_25 C ⟨h0, hlt⟩ hLI hC hM hS hl NX
      · refine lv_tableIn (pc := 32) (off := 900) (tgt := 932) C0.1 C0.2.1 dL_law_32 (by rw [hI]; omega) (by rw [hI]; omega) (by rw [hI]; rfl) (by decide) ?_
        exact law_26 C ⟨h0, hlt⟩ hLI hC hM hS hl NX
      · refine lv_tableIn (pc := 32) (off := 923) (tgt := 955) C0.1 C0.2.1 dL_law_32 (by rw [hI]; omega) (by rw [hI]; omega) (by rw [hI]; rfl) (by decide) ?_
        exact law_27 C ⟨h0, hlt⟩ hLI hC hM hS hl NX
      · refine lv_tableIn (pc := 32) (off := 946) (tgt := 978) C0.1 C0.2.1 dL_law_32 (by rw [hI]; omega) (by rw [hI]; omega) (by rw [hI]; rfl) (by decide) ?_
        exact law_28 C ⟨h0, hlt⟩ hLI hC hM hS hl NX
      · refine lv_tableIn (pc := 32) (off := 959) (tgt := 991) C0.1 C0.2.1 dL_law_32 (by rw [hI]; omega) (by rw [hI]; omega) (by rw [hI]; rfl) (by decide) ?_
        exact law_29 C ⟨h0, hlt⟩ hLI hC hM hS hl NX
      · refine lv_tableOut (pc := 32) (tgt := 1014) C0.1 C0.2.1 dL_law_32 (by rw [hI]; omega) (by decide) ?_
        exact NX uC uM _ _ _ hLI hC hM hS hl
      · refine lv_tableOut (pc := 32) (tgt := 1014) C0.1 C0.2.1 dL_law_32 (by rw [hI]; omega) (by decide) ?_
        exact NX uC uM _ _ _ hLI hC hM hS hl
    · refine lv_icmp_gt (pc := 23) (tgt := 1020) C0.1 C0.2.1 dL_law_23 (by decide) (fun _ => ?_) (fun c => absurd (Int32.lt_iff_toInt_lt.mpr (by rw [hlen]; omega)) c)
      exact law_out C hS
