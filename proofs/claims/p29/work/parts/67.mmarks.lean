theorem dX10_marks_19 : decode cX10_marks 19 = .ok (.iload_n 2, 1) := by decide +kernel
theorem dX10_marks_20 : decode cX10_marks 20 = .ok (.iload_n 1, 1) := by decide +kernel
theorem dX10_marks_21 : decode cX10_marks 21 = .ok (.if_icmp .ge 16, 3) := by decide +kernel
theorem dX10_marks_37 : decode cX10_marks 37 = .ok (.aload_n 0, 1) := by decide +kernel
theorem dX10_marks_38 : decode cX10_marks 38 = .ok (.iload_n 1, 1) := by decide +kernel
theorem dX10_marks_39 : decode cX10_marks 39 = .ok (.putfield 441, 3) := by decide +kernel
theorem dX10_marks_42 : decode cX10_marks 42 = .ok (.iload_n 1, 1) := by decide +kernel
theorem dX10_marks_43 : decode cX10_marks 43 = .ok (.ireturn, 1) := by decide +kernel
theorem dX10_marks_24 : decode cX10_marks 24 = .ok (.aload_n 0, 1) := by decide +kernel
theorem dX10_marks_25 : decode cX10_marks 25 = .ok (.getfield 166, 3) := by decide +kernel
theorem dX10_marks_28 : decode cX10_marks 28 = .ok (.iload_n 2, 1) := by decide +kernel
theorem dX10_marks_29 : decode cX10_marks 29 = .ok (.iconst 0, 1) := by decide +kernel
theorem dX10_marks_30 : decode cX10_marks 30 = .ok (.iastore, 1) := by decide +kernel
theorem dX10_marks_31 : decode cX10_marks 31 = .ok (.iinc 2 1, 3) := by decide +kernel
theorem dX10_marks_34 : decode cX10_marks 34 = .ok (.goto (-15), 3) := by decide +kernel
theorem dX10_marks_0 : decode cX10_marks 0 = .ok (.iload_n 1, 1) := by decide +kernel
theorem dX10_marks_1 : decode cX10_marks 1 = .ok (.ifCond .ge 6, 3) := by decide +kernel
theorem dX10_marks_7 : decode cX10_marks 7 = .ok (.iload_n 1, 1) := by decide +kernel
theorem dX10_marks_8 : decode cX10_marks 8 = .ok (.sipush 200, 3) := by decide +kernel
theorem dX10_marks_11 : decode cX10_marks 11 = .ok (.if_icmp .le 6, 3) := by decide +kernel
theorem dX10_marks_17 : decode cX10_marks 17 = .ok (.iconst 0, 1) := by decide +kernel
theorem dX10_marks_18 : decode cX10_marks 18 = .ok (.istore_n 2, 1) := by decide +kernel
theorem dX10_marks_14 : decode cX10_marks 14 = .ok (.bipush (-2), 2) := by decide +kernel
theorem dX10_marks_16 : decode cX10_marks 16 = .ok (.ireturn, 1) := by decide +kernel
theorem dX10_marks_4 : decode cX10_marks 4 = .ok (.bipush (-13), 2) := by decide +kernel
theorem dX10_marks_6 : decode cX10_marks 6 = .ok (.ireturn, 1) := by decide +kernel
theorem dX10_deepen_13 : decode cX10_deepen 13 = .ok (.iload_n 1, 1) := by decide +kernel
theorem dX10_deepen_14 : decode cX10_deepen 14 = .ok (.aload_n 0, 1) := by decide +kernel
theorem dX10_deepen_15 : decode cX10_deepen 15 = .ok (.getfield 258, 3) := by decide +kernel
theorem dX10_deepen_18 : decode cX10_deepen 18 = .ok (.if_icmp .ge 43, 3) := by decide +kernel
theorem dX10_deepen_61 : decode cX10_deepen 61 = .ok (.aload_n 0, 1) := by decide +kernel
theorem dX10_deepen_62 : decode cX10_deepen 62 = .ok (.getfield 258, 3) := by decide +kernel
theorem dX10_deepen_65 : decode cX10_deepen 65 = .ok (.ireturn, 1) := by decide +kernel
theorem dX10_deepen_21 : decode cX10_deepen 21 = .ok (.iload_n 1, 1) := by decide +kernel
theorem dX10_deepen_22 : decode cX10_deepen 22 = .ok (.aload_n 0, 1) := by decide +kernel
theorem dX10_deepen_23 : decode cX10_deepen 23 = .ok (.getfield 441, 3) := by decide +kernel
theorem dX10_deepen_26 : decode cX10_deepen 26 = .ok (.if_icmp .ne 6, 3) := by decide +kernel
theorem dX10_deepen_32 : decode cX10_deepen 32 = .ok (.aload_n 0, 1) := by decide +kernel
theorem dX10_deepen_33 : decode cX10_deepen 33 = .ok (.getfield 166, 3) := by decide +kernel
theorem dX10_deepen_36 : decode cX10_deepen 36 = .ok (.iload_n 1, 1) := by decide +kernel
theorem dX10_deepen_37 : decode cX10_deepen 37 = .ok (.aload_n 0, 1) := by decide +kernel
theorem dX10_deepen_38 : decode cX10_deepen 38 = .ok (.aload_n 0, 1) := by decide +kernel
theorem dX10_deepen_39 : decode cX10_deepen 39 = .ok (.getfield 94, 3) := by decide +kernel
theorem dX10_deepen_42 : decode cX10_deepen 42 = .ok (.aload_n 0, 1) := by decide +kernel
theorem dX10_deepen_43 : decode cX10_deepen 43 = .ok (.getfield 64, 3) := by decide +kernel
theorem dX10_deepen_46 : decode cX10_deepen 46 = .ok (.iload_n 1, 1) := by decide +kernel
theorem dX10_deepen_47 : decode cX10_deepen 47 = .ok (.iaload, 1) := by decide +kernel
theorem dX10_deepen_48 : decode cX10_deepen 48 = .ok (.iaload, 1) := by decide +kernel
theorem dX10_deepen_49 : decode cX10_deepen 49 = .ok (.invokevirtual 361, 3) := by decide +kernel
theorem dX10_deepen_52 : decode cX10_deepen 52 = .ok (.iconst 1, 1) := by decide +kernel
theorem dX10_deepen_53 : decode cX10_deepen 53 = .ok (.iadd, 1) := by decide +kernel
theorem dX10_deepen_54 : decode cX10_deepen 54 = .ok (.iastore, 1) := by decide +kernel
theorem dX10_deepen_55 : decode cX10_deepen 55 = .ok (.iinc 1 1, 3) := by decide +kernel
theorem dX10_deepen_58 : decode cX10_deepen 58 = .ok (.goto (-45), 3) := by decide +kernel
theorem dX10_deepen_29 : decode cX10_deepen 29 = .ok (.bipush (-12), 2) := by decide +kernel
theorem dX10_deepen_31 : decode cX10_deepen 31 = .ok (.ireturn, 1) := by decide +kernel
theorem dX10_deepen_0 : decode cX10_deepen 0 = .ok (.aload_n 0, 1) := by decide +kernel
theorem dX10_deepen_1 : decode cX10_deepen 1 = .ok (.getfield 211, 3) := by decide +kernel
theorem dX10_deepen_4 : decode cX10_deepen 4 = .ok (.iconst 1, 1) := by decide +kernel
theorem dX10_deepen_5 : decode cX10_deepen 5 = .ok (.if_icmp .eq 6, 3) := by decide +kernel
theorem dX10_deepen_11 : decode cX10_deepen 11 = .ok (.iconst 0, 1) := by decide +kernel
theorem dX10_deepen_12 : decode cX10_deepen 12 = .ok (.istore_n 1, 1) := by decide +kernel
theorem dX10_deepen_8 : decode cX10_deepen 8 = .ok (.bipush (-3), 2) := by decide +kernel
theorem dX10_deepen_10 : decode cX10_deepen 10 = .ok (.ireturn, 1) := by decide +kernel
set_option maxHeartbeats 4000000 in
set_option maxRecDepth 100000 in
theorem m_marks (l : Launch) (D : va_G) (tA : Nat → ClassId) (b : Nat) (i F : Nat → Nat → Int32) (G : Nat → Nat → Int64) (x : Int32) (hI : IMm i F) : xMI l yX10_marks cX10_marks 3 (some .int) 0 0 D tA b 78 52 i F G [.ref (b + 78), .int x] (fun r u => IMm u.1 u.2.1 ∧ RO [11, 12, 13, 14, 15, 16, 17, 18, 19, 20, 21, 22, 23, 24, 25, 26, 27, 28, 29, 30, 31, 32, 33, 34, 35, 36, 37, 38, 39, 40, 41, 42, 43, 44, 45, 46, 47, 48, 49, 50, 51, 52, 53, 54, 55, 56, 57, 58, 59, 60, 61, 62, 63, 64, 65, 66, 67, 68, 69, 70, 71, 72, 73, 74, 75, 76, 77, 78] [85, 86, 87, 88, 89, 90, 91, 92, 93, 94, 95, 96, 97, 98, 99, 100, 101, 102, 103, 104, 105, 106, 107, 108, 109, 110, 111, 112, 113, 114, 115, 116, 117, 118, 119, 120, 121, 122, 123, 124, 125, 126, 127, 128, 129] i F G u ∧ ((x.toInt < 0 ∧ r = -13) ∨ (200 < x.toInt ∧ r = -2) ∨ ((0 ≤ x.toInt ∧ x.toInt ≤ 200) ∧ r = x))) := by
  refine xstart RX10 rfl (by decide) (Nat.le_of_ble_eq_true rfl) ?_
  intro p e s m below meth c ls C0 hr hH hS hl
  have hl : lv_has ls 3 [(0, .ref (b + 78)), (1, .int x)] := hl
  have rg_x := fb_rng x
  have hI0 := hI
  obtain ⟨hsz, hbt, hks, hsrc, hTK, hCB, hWA, hwr, hmk, hG, hKA, hKI⟩ := hI0
  have hTKl := hTK.1
  have hGL : (i 78 15).toInt = 1 → (0 ≤ (i 78 32).toInt ∧ 0 ≤ (i 78 40).toInt) := fun w => ⟨(hG w).2.2.1, (hG w).2.2.2⟩
  have L19 : ∀ (d : Nat) (k : Int32) (iv Fv : Nat → Nat → Int32) (Gv : Nat → Nat → Int64) (H : Heap) (locs : List Loc) (ls : Array Slot), (0 ≤ k.toInt) → (x.toInt - k.toInt ≤ d) → (RO [] [129] i F G (iv, Fv, Gv)) → (0 ≤ x.toInt ∧ x.toInt ≤ 200) → Hd D tA b 78 52 zz iv Fv Gv H → va_S (xA b 78 52) s.heap H locs → lv_has ls 3 [(2, .int k), (0, .ref (b + 78)), (1, .int x)] → W p l e (xR 0 0) s m ([.ref (b + 78), .int x] : List Value).toArray below meth c H locs 0 0 (MQ below (va_Qi (fun r u => IMm u.1 u.2.1 ∧ RO [11, 12, 13, 14, 15, 16, 17, 18, 19, 20, 21, 22, 23, 24, 25, 26, 27, 28, 29, 30, 31, 32, 33, 34, 35, 36, 37, 38, 39, 40, 41, 42, 43, 44, 45, 46, 47, 48, 49, 50, 51, 52, 53, 54, 55, 56, 57, 58, 59, 60, 61, 62, 63, 64, 65, 66, 67, 68, 69, 70, 71, 72, 73, 74, 75, 76, 77, 78] [85, 86, 87, 88, 89, 90, 91, 92, 93, 94, 95, 96, 97, 98, 99, 100, 101, 102, 103, 104, 105, 106, 107, 108, 109, 110, 111, 112, 113, 114, 115, 116, 117, 118, 119, 120, 121, 122, 123, 124, 125, 126, 127, 128, 129] i F G u ∧ ((x.toInt < 0 ∧ r = -13) ∨ (200 < x.toInt ∧ r = -2) ∨ ((0 ≤ x.toInt ∧ x.toInt ≤ 200) ∧ r = x))) (xB D tA b 78 52 zz) (xA b 78 52)) ([.ref (b + 78), .int x] : List Value).toArray s 0 0 (xA b 78 52)) (F0 m 19 ls []) := by
    intro d
    induction d with
    | zero =>
      intro k iv Fv Gv H locs ls h1 h2 h3 h4 hH hS hl
      have rg_k := fb_rng k
      have ek12 : Int32.toInt (iv 78 12) = Int32.toInt (i 78 12) := congrArg Int32.toInt (h3.1 78 12 (Or.inr (by decide)))
      have ek14 : Int32.toInt (iv 78 14) = Int32.toInt (i 78 14) := congrArg Int32.toInt (h3.1 78 14 (Or.inr (by decide)))
      have ek15 : Int32.toInt (iv 78 15) = Int32.toInt (i 78 15) := congrArg Int32.toInt (h3.1 78 15 (Or.inr (by decide)))
      have ek19 : Int32.toInt (iv 78 19) = Int32.toInt (i 78 19) := congrArg Int32.toInt (h3.1 78 19 (Or.inr (by decide)))
      have ek32 : Int32.toInt (iv 78 32) = Int32.toInt (i 78 32) := congrArg Int32.toInt (h3.1 78 32 (Or.inr (by decide)))
      have ek40 : Int32.toInt (iv 78 40) = Int32.toInt (i 78 40) := congrArg Int32.toInt (h3.1 78 40 (Or.inr (by decide)))
      have ek54 : Int32.toInt (iv 78 54) = Int32.toInt (i 78 54) := congrArg Int32.toInt (h3.1 78 54 (Or.inr (by decide)))
      have ek78 : Int32.toInt (iv 78 78) = Int32.toInt (i 78 78) := congrArg Int32.toInt (h3.1 78 78 (Or.inr (by decide)))
      have hsrc : iv 78 17 = nI 85 := (h3.1 78 17 (Or.inr (by decide))).trans hsrc
      have hTK : TKm iv Fv := TKm.ro hTK h3 (by decide)
      have hTKl := hTK.1
      have hCB : CB Fv := CB.ro hCB h3 (by decide)
      have hWA : WA Fv := WA.ro hWA h3 (by decide)
      have hbt : BT (Fv 85) := by rw [show Fv 85 = F 85 from (h3.2 85 (by decide)).1]; exact hbt
      have hKA : TA (Fv 122) (Fv 123) := by rw [show Fv 122 = F 122 from (h3.2 122 (by decide)).1, show Fv 123 = F 123 from (h3.2 123 (by decide)).1]; exact hKA
      have hKI : inR (Fv 124) 0 1202 := by rw [show Fv 124 = F 124 from (h3.2 124 (by decide)).1]; exact hKI
      have hG : (iv 78 15).toInt = 1 → GTm iv Fv := fun w => (fun w0 => GTm.cg (hG w0) ⟨by have := (hGL w0).1; omega, by omega⟩ ⟨by have := (hGL w0).2; omega, by omega⟩ (fun k _ _ hk => (h3.2 k (fun q => by simp only [List.mem_cons, List.not_mem_nil, or_false] at q; omega)).1)) (show (i 78 15).toInt = 1 from by omega)
      refine lv_iload_n (pc := 19) C0.1 C0.2.1 dX10_marks_19 rfl (lv_at hl 0 rfl) ?_
      refine lv_iload_n (pc := 20) C0.1 C0.2.1 dX10_marks_20 rfl (lv_at hl 2 rfl) ?_
      refine lv_icmp_ge (pc := 21) (tgt := 37) C0.1 C0.2.1 dX10_marks_21 (by decide) (fun _ => ?_) (fun c => absurd (Int32.le_iff_toInt_le.mpr (by omega)) c)
      refine lv_aload_n (pc := 37) C0.1 C0.2.1 dX10_marks_37 rfl (lv_at hl 1 rfl) ?_
      refine lv_iload_n (pc := 38) C0.1 C0.2.1 dX10_marks_38 rfl (lv_at hl 2 rfl) ?_
      refine xputI (pc := 39) C0 (Nat.le_of_ble_eq_true rfl) hH hS 78 78 clX10 ⟨Nat.le_of_ble_eq_true rfl, Nat.le_of_ble_eq_true rfl⟩ ⟨rfl, rfl⟩ ⟨Nat.le_of_ble_eq_true rfl, rfl, rfl⟩ fl_X10_441 (x := x) ⟨rfl, rfl⟩ dX10_marks_39 (fun _ locs hH hS _ => ?_)
      have hH : Hd D tA b 78 52 zz (up2 iv 78 78 x) Fv Gv _ := hH
      refine lv_iload_n (pc := 42) C0.1 C0.2.1 dX10_marks_42 rfl (lv_at hl 2 rfl) ?_
      exact xiret (pc := 43) C0 hr hH hS dX10_marks_43 ⟨⟨(show 0 ≤ Int32.toInt (iv 78 12) ∧ Int32.toInt (iv 78 12) ≤ 600 from by omega), hbt, (show 0 ≤ Int32.toInt (iv 78 14) ∧ Int32.toInt (iv 78 14) ≤ 600 from by omega), hsrc, hTK, hCB, hWA, (show 0 ≤ Int32.toInt (iv 78 54) ∧ Int32.toInt (iv 78 54) ≤ 4000 from by omega), (show 0 ≤ Int32.toInt x ∧ Int32.toInt x ≤ 200 from by omega), hG, hKA, hKI⟩, (RO.i (RO.tr RO.rf h3 (by decide) (by decide)) (by decide)), Or.inr (Or.inr ⟨by omega, rfl⟩)⟩
    | succ d ih19 =>
      intro k iv Fv Gv H locs ls h1 h2 h3 h4 hH hS hl
      have rg_k := fb_rng k
      have ek12 : Int32.toInt (iv 78 12) = Int32.toInt (i 78 12) := congrArg Int32.toInt (h3.1 78 12 (Or.inr (by decide)))
      have ek14 : Int32.toInt (iv 78 14) = Int32.toInt (i 78 14) := congrArg Int32.toInt (h3.1 78 14 (Or.inr (by decide)))
      have ek15 : Int32.toInt (iv 78 15) = Int32.toInt (i 78 15) := congrArg Int32.toInt (h3.1 78 15 (Or.inr (by decide)))
      have ek19 : Int32.toInt (iv 78 19) = Int32.toInt (i 78 19) := congrArg Int32.toInt (h3.1 78 19 (Or.inr (by decide)))
      have ek32 : Int32.toInt (iv 78 32) = Int32.toInt (i 78 32) := congrArg Int32.toInt (h3.1 78 32 (Or.inr (by decide)))
      have ek40 : Int32.toInt (iv 78 40) = Int32.toInt (i 78 40) := congrArg Int32.toInt (h3.1 78 40 (Or.inr (by decide)))
      have ek54 : Int32.toInt (iv 78 54) = Int32.toInt (i 78 54) := congrArg Int32.toInt (h3.1 78 54 (Or.inr (by decide)))
      have ek78 : Int32.toInt (iv 78 78) = Int32.toInt (i 78 78) := congrArg Int32.toInt (h3.1 78 78 (Or.inr (by decide)))
      have hsrc : iv 78 17 = nI 85 := (h3.1 78 17 (Or.inr (by decide))).trans hsrc
      have hTK : TKm iv Fv := TKm.ro hTK h3 (by decide)
      have hTKl := hTK.1
      have hCB : CB Fv := CB.ro hCB h3 (by decide)
      have hWA : WA Fv := WA.ro hWA h3 (by decide)
      have hbt : BT (Fv 85) := by rw [show Fv 85 = F 85 from (h3.2 85 (by decide)).1]; exact hbt
      have hKA : TA (Fv 122) (Fv 123) := by rw [show Fv 122 = F 122 from (h3.2 122 (by decide)).1, show Fv 123 = F 123 from (h3.2 123 (by decide)).1]; exact hKA
      have hKI : inR (Fv 124) 0 1202 := by rw [show Fv 124 = F 124 from (h3.2 124 (by decide)).1]; exact hKI
      have hG : (iv 78 15).toInt = 1 → GTm iv Fv := fun w => (fun w0 => GTm.cg (hG w0) ⟨by have := (hGL w0).1; omega, by omega⟩ ⟨by have := (hGL w0).2; omega, by omega⟩ (fun k _ _ hk => (h3.2 k (fun q => by simp only [List.mem_cons, List.not_mem_nil, or_false] at q; omega)).1)) (show (i 78 15).toInt = 1 from by omega)
      refine lv_iload_n (pc := 19) C0.1 C0.2.1 dX10_marks_19 rfl (lv_at hl 0 rfl) ?_
      refine lv_iload_n (pc := 20) C0.1 C0.2.1 dX10_marks_20 rfl (lv_at hl 2 rfl) ?_
      refine lv_icmp_ge (pc := 21) (tgt := 37) C0.1 C0.2.1 dX10_marks_21 (by decide) (fun c201 => ?_) (fun c201 => ?_)
      · have c201 := Int32.le_iff_toInt_le.mp c201
        refine lv_aload_n (pc := 37) C0.1 C0.2.1 dX10_marks_37 rfl (lv_at hl 1 rfl) ?_
        refine lv_iload_n (pc := 38) C0.1 C0.2.1 dX10_marks_38 rfl (lv_at hl 2 rfl) ?_
        refine xputI (pc := 39) C0 (Nat.le_of_ble_eq_true rfl) hH hS 78 78 clX10 ⟨Nat.le_of_ble_eq_true rfl, Nat.le_of_ble_eq_true rfl⟩ ⟨rfl, rfl⟩ ⟨Nat.le_of_ble_eq_true rfl, rfl, rfl⟩ fl_X10_441 (x := x) ⟨rfl, rfl⟩ dX10_marks_39 (fun _ locs hH hS _ => ?_)
        have hH : Hd D tA b 78 52 zz (up2 iv 78 78 x) Fv Gv _ := hH
        refine lv_iload_n (pc := 42) C0.1 C0.2.1 dX10_marks_42 rfl (lv_at hl 2 rfl) ?_
        exact xiret (pc := 43) C0 hr hH hS dX10_marks_43 ⟨⟨(show 0 ≤ Int32.toInt (iv 78 12) ∧ Int32.toInt (iv 78 12) ≤ 600 from by omega), hbt, (show 0 ≤ Int32.toInt (iv 78 14) ∧ Int32.toInt (iv 78 14) ≤ 600 from by omega), hsrc, hTK, hCB, hWA, (show 0 ≤ Int32.toInt (iv 78 54) ∧ Int32.toInt (iv 78 54) ≤ 4000 from by omega), (show 0 ≤ Int32.toInt x ∧ Int32.toInt x ≤ 200 from by omega), hG, hKA, hKI⟩, (RO.i (RO.tr RO.rf h3 (by decide) (by decide)) (by decide)), Or.inr (Or.inr ⟨by omega, rfl⟩)⟩
      · have c201 : ¬ _ := fun q => c201 (Int32.le_iff_toInt_le.mpr q)
        refine lv_aload_n (pc := 24) C0.1 C0.2.1 dX10_marks_24 rfl (lv_at hl 1 rfl) ?_
        refine xget (pc := 25) C0 hH 78 77 clX10 ⟨Nat.le_of_ble_eq_true rfl, Nat.le_of_ble_eq_true rfl⟩ ⟨rfl, rfl⟩ (Nat.le_of_ble_eq_true rfl) fl_X10_166 (v := .ref (b + 129)) rfl dX10_marks_25 ?_
        refine lv_iload_n (pc := 28) C0.1 C0.2.1 dX10_marks_28 rfl (lv_at hl 0 rfl) ?_
        refine lv_iconst (pc := 29) (v := 0) C0.1 C0.2.1 dX10_marks_29 (by decide) ?_
        refine xiast (pc := 30) (N := 200) C0 (Nat.le_of_ble_eq_true rfl) hH hS 129 ⟨Nat.le_of_ble_eq_true rfl, Nat.le_of_ble_eq_true rfl⟩ ⟨rfl, rfl⟩ (vI (by omega) (by omega)) dX10_marks_30 (fun _ locs hH hS _ => ?_)
        have hH : Hd D tA b 78 52 zz iv (va_up Fv 129 (upd (Fv 129) (Int32.toNatClampNeg k) 0)) Gv _ := hH
        obtain ⟨x202, ex202⟩ : ∃ y_ : Int32, y_ = k + 1 := ⟨_, rfl⟩
        have : Int32.toInt 1 = 1 := rfl
        have hx202 : Int32.toInt x202 = Int32.toInt k + Int32.toInt 1 := by rw [ex202]; exact fb_addI (by omega) (by omega)
        refine lv_iinc (pc := 31) (v := x202) (lv' := [(2, .int x202), (0, .ref (b + 78)), (1, .int x)]) C0.1 C0.2.1 dX10_marks_31 hl (k := 0) rfl (by rw [ex202]; rfl) (by decide) rfl (fun ls hl => ?_)
        refine lv_goto (pc := 34) (tgt := 19) C0.1 C0.2.1 dX10_marks_34 (by decide) ?_
        exact ih19 x202 iv (va_up Fv 129 (upd (Fv 129) (Int32.toNatClampNeg k) 0)) Gv _ _ _ (by omega) (by omega) (RO.f h3 (by decide)) h4 hH hS (lv_sub hl [0, 1, 2] rfl)
  refine lv_iload_n (pc := 0) C0.1 C0.2.1 dX10_marks_0 rfl (lv_at hl 1 rfl) ?_
  refine lv_if_ge (pc := 1) (tgt := 7) C0.1 C0.2.1 dX10_marks_1 (by decide) (fun c1 => ?_) (fun c1 => ?_)
  · have : Int32.toInt 0 = 0 := rfl
    have c1 := Int32.le_iff_toInt_le.mp c1
    refine lv_iload_n (pc := 7) C0.1 C0.2.1 dX10_marks_7 rfl (lv_at hl 1 rfl) ?_
    refine lv_sipush (pc := 8) (v := 200) C0.1 C0.2.1 dX10_marks_8 (by decide) ?_
    refine lv_icmp_le (pc := 11) (tgt := 17) C0.1 C0.2.1 dX10_marks_11 (by decide) (fun c2 => ?_) (fun c2 => ?_)
    · have : Int32.toInt 200 = 200 := rfl
      have c2 := Int32.le_iff_toInt_le.mp c2
      refine lv_iconst (pc := 17) (v := 0) C0.1 C0.2.1 dX10_marks_17 (by decide) ?_
      refine lv_istore_n (pc := 18) (lv' := [(2, .int 0), (0, .ref (b + 78)), (1, .int x)]) C0.1 C0.2.1 dX10_marks_18 rfl hl (by decide) rfl (fun ls hl => ?_)
      exact L19 200 0 i F G _ _ _ (by decide) (by have : Int32.toInt 0 = 0 := rfl; omega) RO.rf (by omega) hH hS (lv_sub hl [0, 1, 2] rfl)
    · have : Int32.toInt 200 = 200 := rfl
      have c2 : ¬ _ := fun q => c2 (Int32.le_iff_toInt_le.mpr q)
      refine lv_bipush (pc := 14) (v := (-2)) C0.1 C0.2.1 dX10_marks_14 (by decide) ?_
      exact xiret (pc := 16) C0 hr hH hS dX10_marks_16 ⟨hI, RO.rf, Or.inr (Or.inl ⟨by omega, rfl⟩)⟩
  · have : Int32.toInt 0 = 0 := rfl
    have c1 : ¬ _ := fun q => c1 (Int32.le_iff_toInt_le.mpr q)
    refine lv_bipush (pc := 4) (v := (-13)) C0.1 C0.2.1 dX10_marks_4 (by decide) ?_
    exact xiret (pc := 6) C0 hr hH hS dX10_marks_6 ⟨hI, RO.rf, Or.inl ⟨by omega, rfl⟩⟩
set_option maxHeartbeats 4000000 in
set_option maxRecDepth 100000 in
theorem m_deepen (l : Launch) (D : va_G) (tA : Nat → ClassId) (b : Nat) (i F : Nat → Nat → Int32) (G : Nat → Nat → Int64)  (hI : IMm i F) : xMI l yX10_deepen cX10_deepen 2 (some .int) 1 23 D tA b 78 52 i F G [.ref (b + 78)] (fun r u => IMm u.1 u.2.1 ∧ RO [11, 12, 13, 14, 15, 16, 17, 18, 19, 20, 21, 22, 23, 24, 25, 26, 27, 28, 29, 30, 31, 32, 33, 34, 35, 36, 37, 38, 39, 40, 41, 42, 43, 44, 45, 46, 47, 48, 49, 50, 51, 52, 53, 54, 55, 56, 57, 58, 59, 60, 61, 62, 63, 64, 65, 66, 67, 68, 69, 70, 71, 72, 73, 74, 75, 76, 77, 78] [85, 86, 87, 88, 89, 90, 91, 92, 93, 94, 95, 96, 97, 98, 99, 100, 101, 102, 103, 104, 105, 106, 107, 108, 109, 110, 111, 112, 113, 114, 115, 116, 117, 118, 119, 120, 121, 122, 123, 124, 125, 126, 127, 128, 129] i F G u) := by
  refine xstart RX10 rfl (by decide) (Nat.le_of_ble_eq_true rfl) ?_
  intro p e s m below meth c ls C0 hr hH hS hl
  have hl : lv_has ls 2 [(0, .ref (b + 78))] := hl
  have hI0 := hI
  obtain ⟨hsz, hbt, hks, hsrc, hTK, hCB, hWA, hwr, hmk, hG, hKA, hKI⟩ := hI0
  have hTKl := hTK.1
  have hGL : (i 78 15).toInt = 1 → (0 ≤ (i 78 32).toInt ∧ 0 ≤ (i 78 40).toInt) := fun w => ⟨(hG w).2.2.1, (hG w).2.2.2⟩
  have L13 : ∀ (d : Nat) (k : Int32) (iv Fv : Nat → Nat → Int32) (Gv : Nat → Nat → Int64) (H : Heap) (locs : List Loc) (ls : Array Slot), (0 ≤ k.toInt ∧ k.toInt ≤ 200) → ((i 78 19).toInt - k.toInt ≤ d) → (RO [] [129] i F G (iv, Fv, Gv)) → ((i 78 15).toInt = 1) → (k.toInt ≤ (i 78 78).toInt) → Hd D tA b 78 52 zz iv Fv Gv H → va_S (xA b 78 52) s.heap H locs → lv_has ls 2 [(1, .int k), (0, .ref (b + 78))] → W p l e (xR 1 23) s m ([.ref (b + 78)] : List Value).toArray below meth c H locs 0 0 (MQ below (va_Qi (fun r u => IMm u.1 u.2.1 ∧ RO [11, 12, 13, 14, 15, 16, 17, 18, 19, 20, 21, 22, 23, 24, 25, 26, 27, 28, 29, 30, 31, 32, 33, 34, 35, 36, 37, 38, 39, 40, 41, 42, 43, 44, 45, 46, 47, 48, 49, 50, 51, 52, 53, 54, 55, 56, 57, 58, 59, 60, 61, 62, 63, 64, 65, 66, 67, 68, 69, 70, 71, 72, 73, 74, 75, 76, 77, 78] [85, 86, 87, 88, 89, 90, 91, 92, 93, 94, 95, 96, 97, 98, 99, 100, 101, 102, 103, 104, 105, 106, 107, 108, 109, 110, 111, 112, 113, 114, 115, 116, 117, 118, 119, 120, 121, 122, 123, 124, 125, 126, 127, 128, 129] i F G u) (xB D tA b 78 52 zz) (xA b 78 52)) ([.ref (b + 78)] : List Value).toArray s 0 0 (xA b 78 52)) (F0 m 13 ls []) := by
    intro d
    induction d with
    | zero =>
      intro k iv Fv Gv H locs ls h1 h2 h3 h4 h5 hH hS hl
      have rg_k := fb_rng k
      have ek12 : Int32.toInt (iv 78 12) = Int32.toInt (i 78 12) := congrArg Int32.toInt (h3.1 78 12 (Or.inr (by decide)))
      have ek14 : Int32.toInt (iv 78 14) = Int32.toInt (i 78 14) := congrArg Int32.toInt (h3.1 78 14 (Or.inr (by decide)))
      have ek15 : Int32.toInt (iv 78 15) = Int32.toInt (i 78 15) := congrArg Int32.toInt (h3.1 78 15 (Or.inr (by decide)))
      have ek19 : Int32.toInt (iv 78 19) = Int32.toInt (i 78 19) := congrArg Int32.toInt (h3.1 78 19 (Or.inr (by decide)))
      have ek32 : Int32.toInt (iv 78 32) = Int32.toInt (i 78 32) := congrArg Int32.toInt (h3.1 78 32 (Or.inr (by decide)))
      have ek40 : Int32.toInt (iv 78 40) = Int32.toInt (i 78 40) := congrArg Int32.toInt (h3.1 78 40 (Or.inr (by decide)))
      have ek54 : Int32.toInt (iv 78 54) = Int32.toInt (i 78 54) := congrArg Int32.toInt (h3.1 78 54 (Or.inr (by decide)))
      have ek78 : Int32.toInt (iv 78 78) = Int32.toInt (i 78 78) := congrArg Int32.toInt (h3.1 78 78 (Or.inr (by decide)))
      have hsrc : iv 78 17 = nI 85 := (h3.1 78 17 (Or.inr (by decide))).trans hsrc
      have hTK : TKm iv Fv := TKm.ro hTK h3 (by decide)
      have hTKl := hTK.1
      have hCB : CB Fv := CB.ro hCB h3 (by decide)
      have hWA : WA Fv := WA.ro hWA h3 (by decide)
      have hbt : BT (Fv 85) := by rw [show Fv 85 = F 85 from (h3.2 85 (by decide)).1]; exact hbt
      have hKA : TA (Fv 122) (Fv 123) := by rw [show Fv 122 = F 122 from (h3.2 122 (by decide)).1, show Fv 123 = F 123 from (h3.2 123 (by decide)).1]; exact hKA
      have hKI : inR (Fv 124) 0 1202 := by rw [show Fv 124 = F 124 from (h3.2 124 (by decide)).1]; exact hKI
      have hG : (iv 78 15).toInt = 1 → GTm iv Fv := fun w => (fun w0 => GTm.cg (hG w0) ⟨by have := (hGL w0).1; omega, by omega⟩ ⟨by have := (hGL w0).2; omega, by omega⟩ (fun k _ _ hk => (h3.2 k (fun q => by simp only [List.mem_cons, List.not_mem_nil, or_false] at q; omega)).1)) (show (i 78 15).toInt = 1 from by omega)
      have hz := (hG (by omega)).2.1
      refine lv_iload_n (pc := 13) C0.1 C0.2.1 dX10_deepen_13 rfl (lv_at hl 0 rfl) ?_
      refine lv_aload_n (pc := 14) C0.1 C0.2.1 dX10_deepen_14 rfl (lv_at hl 1 rfl) ?_
      refine xget (pc := 15) C0 hH 78 19 clX10 ⟨Nat.le_of_ble_eq_true rfl, Nat.le_of_ble_eq_true rfl⟩ ⟨rfl, rfl⟩ (Nat.le_of_ble_eq_true rfl) fl_X10_258 (v := .int (iv 78 19)) rfl dX10_deepen_15 ?_
      refine lv_icmp_ge (pc := 18) (tgt := 61) C0.1 C0.2.1 dX10_deepen_18 (by decide) (fun _ => ?_) (fun c => absurd (Int32.le_iff_toInt_le.mpr (by omega)) c)
      refine lv_aload_n (pc := 61) C0.1 C0.2.1 dX10_deepen_61 rfl (lv_at hl 1 rfl) ?_
      refine xget (pc := 62) C0 hH 78 19 clX10 ⟨Nat.le_of_ble_eq_true rfl, Nat.le_of_ble_eq_true rfl⟩ ⟨rfl, rfl⟩ (Nat.le_of_ble_eq_true rfl) fl_X10_258 (v := .int (iv 78 19)) rfl dX10_deepen_62 ?_
      exact xiret (pc := 65) C0 hr hH hS dX10_deepen_65 ⟨⟨(show 0 ≤ Int32.toInt (iv 78 12) ∧ Int32.toInt (iv 78 12) ≤ 600 from by omega), hbt, (show 0 ≤ Int32.toInt (iv 78 14) ∧ Int32.toInt (iv 78 14) ≤ 600 from by omega), hsrc, hTK, hCB, hWA, (show 0 ≤ Int32.toInt (iv 78 54) ∧ Int32.toInt (iv 78 54) ≤ 4000 from by omega), (show 0 ≤ Int32.toInt (iv 78 78) ∧ Int32.toInt (iv 78 78) ≤ 200 from by omega), hG, hKA, hKI⟩, (RO.tr RO.rf h3 (by decide) (by decide))⟩
    | succ d ih13 =>
      intro k iv Fv Gv H locs ls h1 h2 h3 h4 h5 hH hS hl
      have rg_k := fb_rng k
      have ek12 : Int32.toInt (iv 78 12) = Int32.toInt (i 78 12) := congrArg Int32.toInt (h3.1 78 12 (Or.inr (by decide)))
      have ek14 : Int32.toInt (iv 78 14) = Int32.toInt (i 78 14) := congrArg Int32.toInt (h3.1 78 14 (Or.inr (by decide)))
      have ek15 : Int32.toInt (iv 78 15) = Int32.toInt (i 78 15) := congrArg Int32.toInt (h3.1 78 15 (Or.inr (by decide)))
      have ek19 : Int32.toInt (iv 78 19) = Int32.toInt (i 78 19) := congrArg Int32.toInt (h3.1 78 19 (Or.inr (by decide)))
      have ek32 : Int32.toInt (iv 78 32) = Int32.toInt (i 78 32) := congrArg Int32.toInt (h3.1 78 32 (Or.inr (by decide)))
      have ek40 : Int32.toInt (iv 78 40) = Int32.toInt (i 78 40) := congrArg Int32.toInt (h3.1 78 40 (Or.inr (by decide)))
      have ek54 : Int32.toInt (iv 78 54) = Int32.toInt (i 78 54) := congrArg Int32.toInt (h3.1 78 54 (Or.inr (by decide)))
      have ek78 : Int32.toInt (iv 78 78) = Int32.toInt (i 78 78) := congrArg Int32.toInt (h3.1 78 78 (Or.inr (by decide)))
      have hsrc : iv 78 17 = nI 85 := (h3.1 78 17 (Or.inr (by decide))).trans hsrc
      have hTK : TKm iv Fv := TKm.ro hTK h3 (by decide)
      have hTKl := hTK.1
      have hCB : CB Fv := CB.ro hCB h3 (by decide)
      have hWA : WA Fv := WA.ro hWA h3 (by decide)
      have hbt : BT (Fv 85) := by rw [show Fv 85 = F 85 from (h3.2 85 (by decide)).1]; exact hbt
      have hKA : TA (Fv 122) (Fv 123) := by rw [show Fv 122 = F 122 from (h3.2 122 (by decide)).1, show Fv 123 = F 123 from (h3.2 123 (by decide)).1]; exact hKA
      have hKI : inR (Fv 124) 0 1202 := by rw [show Fv 124 = F 124 from (h3.2 124 (by decide)).1]; exact hKI
      have hG : (iv 78 15).toInt = 1 → GTm iv Fv := fun w => (fun w0 => GTm.cg (hG w0) ⟨by have := (hGL w0).1; omega, by omega⟩ ⟨by have := (hGL w0).2; omega, by omega⟩ (fun k _ _ hk => (h3.2 k (fun q => by simp only [List.mem_cons, List.not_mem_nil, or_false] at q; omega)).1)) (show (i 78 15).toInt = 1 from by omega)
      have hz := (hG (by omega)).2.1
      refine lv_iload_n (pc := 13) C0.1 C0.2.1 dX10_deepen_13 rfl (lv_at hl 0 rfl) ?_
      refine lv_aload_n (pc := 14) C0.1 C0.2.1 dX10_deepen_14 rfl (lv_at hl 1 rfl) ?_
      refine xget (pc := 15) C0 hH 78 19 clX10 ⟨Nat.le_of_ble_eq_true rfl, Nat.le_of_ble_eq_true rfl⟩ ⟨rfl, rfl⟩ (Nat.le_of_ble_eq_true rfl) fl_X10_258 (v := .int (iv 78 19)) rfl dX10_deepen_15 ?_
      refine lv_icmp_ge (pc := 18) (tgt := 61) C0.1 C0.2.1 dX10_deepen_18 (by decide) (fun c201 => ?_) (fun c201 => ?_)
      · have c201 := Int32.le_iff_toInt_le.mp c201
        refine lv_aload_n (pc := 61) C0.1 C0.2.1 dX10_deepen_61 rfl (lv_at hl 1 rfl) ?_
        refine xget (pc := 62) C0 hH 78 19 clX10 ⟨Nat.le_of_ble_eq_true rfl, Nat.le_of_ble_eq_true rfl⟩ ⟨rfl, rfl⟩ (Nat.le_of_ble_eq_true rfl) fl_X10_258 (v := .int (iv 78 19)) rfl dX10_deepen_62 ?_
        exact xiret (pc := 65) C0 hr hH hS dX10_deepen_65 ⟨⟨(show 0 ≤ Int32.toInt (iv 78 12) ∧ Int32.toInt (iv 78 12) ≤ 600 from by omega), hbt, (show 0 ≤ Int32.toInt (iv 78 14) ∧ Int32.toInt (iv 78 14) ≤ 600 from by omega), hsrc, hTK, hCB, hWA, (show 0 ≤ Int32.toInt (iv 78 54) ∧ Int32.toInt (iv 78 54) ≤ 4000 from by omega), (show 0 ≤ Int32.toInt (iv 78 78) ∧ Int32.toInt (iv 78 78) ≤ 200 from by omega), hG, hKA, hKI⟩, (RO.tr RO.rf h3 (by decide) (by decide))⟩
      · have c201 : ¬ _ := fun q => c201 (Int32.le_iff_toInt_le.mpr q)
        refine lv_iload_n (pc := 21) C0.1 C0.2.1 dX10_deepen_21 rfl (lv_at hl 0 rfl) ?_
        refine lv_aload_n (pc := 22) C0.1 C0.2.1 dX10_deepen_22 rfl (lv_at hl 1 rfl) ?_
        refine xget (pc := 23) C0 hH 78 78 clX10 ⟨Nat.le_of_ble_eq_true rfl, Nat.le_of_ble_eq_true rfl⟩ ⟨rfl, rfl⟩ (Nat.le_of_ble_eq_true rfl) fl_X10_441 (v := .int (iv 78 78)) rfl dX10_deepen_23 ?_
        refine lv_icmp_ne (pc := 26) (tgt := 32) C0.1 C0.2.1 dX10_deepen_26 (by decide) (fun c202 => ?_) (fun c202 => ?_)
        · have c202 : ¬ _ := fun q => c202 (Int32.toInt_inj.mp q)
          refine lv_aload_n (pc := 32) C0.1 C0.2.1 dX10_deepen_32 rfl (lv_at hl 1 rfl) ?_
          refine xget (pc := 33) C0 hH 78 77 clX10 ⟨Nat.le_of_ble_eq_true rfl, Nat.le_of_ble_eq_true rfl⟩ ⟨rfl, rfl⟩ (Nat.le_of_ble_eq_true rfl) fl_X10_166 (v := .ref (b + 129)) rfl dX10_deepen_33 ?_
          refine lv_iload_n (pc := 36) C0.1 C0.2.1 dX10_deepen_36 rfl (lv_at hl 0 rfl) ?_
          refine lv_aload_n (pc := 37) C0.1 C0.2.1 dX10_deepen_37 rfl (lv_at hl 1 rfl) ?_
          refine lv_aload_n (pc := 38) C0.1 C0.2.1 dX10_deepen_38 rfl (lv_at hl 1 rfl) ?_
          refine xget (pc := 39) C0 hH 78 41 clX10 ⟨Nat.le_of_ble_eq_true rfl, Nat.le_of_ble_eq_true rfl⟩ ⟨rfl, rfl⟩ (Nat.le_of_ble_eq_true rfl) fl_X10_94 (v := .ref (b + 105)) rfl dX10_deepen_39 ?_
          refine lv_aload_n (pc := 42) C0.1 C0.2.1 dX10_deepen_42 rfl (lv_at hl 1 rfl) ?_
          refine xget (pc := 43) C0 hH 78 27 clX10 ⟨Nat.le_of_ble_eq_true rfl, Nat.le_of_ble_eq_true rfl⟩ ⟨rfl, rfl⟩ (Nat.le_of_ble_eq_true rfl) fl_X10_64 (v := .ref (b + 95)) rfl dX10_deepen_43 ?_
          refine lv_iload_n (pc := 46) C0.1 C0.2.1 dX10_deepen_46 rfl (lv_at hl 0 rfl) ?_
          refine xiald (pc := 47) (N := 600) C0 hH 95 ⟨Nat.le_of_ble_eq_true rfl, Nat.le_of_ble_eq_true rfl⟩ ⟨rfl, rfl⟩ (vI (by omega) (by omega)) dX10_deepen_47 ?_
          refine xiald (pc := 48) (N := 1202) C0 hH 105 ⟨Nat.le_of_ble_eq_true rfl, Nat.le_of_ble_eq_true rfl⟩ ⟨rfl, rfl⟩ (vI (hWA.io _).1 (hWA.io _).2) dX10_deepen_48 ?_
          have hib := hWA.ib (Int32.toNatClampNeg (Fv 95 (Int32.toNatClampNeg k)))
          refine xcVI (pc := 49) 78 [.int (Fv 105 (Int32.toNatClampNeg (Fv 95 (Int32.toNatClampNeg k))))] (m_depth l D tA b iv Fv Gv (Fv 105 (Int32.toNatClampNeg (Fv 95 (Int32.toNatClampNeg k)))) hWA hz (by omega)) C0 hH hS clX10 rfl ⟨⟨Nat.le_of_ble_eq_true rfl, Nat.le_of_ble_eq_true rfl⟩, rfl, rfl⟩ cw_X10_361 rfl ⟨Nat.le_of_ble_eq_true rfl, Nat.le_of_ble_eq_true rfl⟩ hl.1 rfl (Nat.le_of_ble_eq_true rfl) dX10_deepen_49 ⟨Nat.le_of_ble_eq_true rfl, Nat.le_of_ble_eq_true rfl⟩ (fun r203 ir203 Fr203 Gr203 _ locs hp hH hS => ?_)
          obtain ⟨hu, hpr203⟩ := hp
          cases hu
          refine lv_iconst (pc := 52) (v := 1) C0.1 C0.2.1 dX10_deepen_52 (by decide) ?_
          refine lv_iadd (pc := 53) C0.1 C0.2.1 dX10_deepen_53 ?_
          refine xiast (pc := 54) (N := 200) C0 (Nat.le_of_ble_eq_true rfl) hH hS 129 ⟨Nat.le_of_ble_eq_true rfl, Nat.le_of_ble_eq_true rfl⟩ ⟨rfl, rfl⟩ (vI (by omega) (by omega)) dX10_deepen_54 (fun _ locs hH hS _ => ?_)
          have hH : Hd D tA b 78 52 zz iv (va_up Fv 129 (upd (Fv 129) (Int32.toNatClampNeg k) (r203 + 1))) Gv _ := hH
          obtain ⟨x204, ex204⟩ : ∃ y_ : Int32, y_ = k + 1 := ⟨_, rfl⟩
          have : Int32.toInt 1 = 1 := rfl
          have hx204 : Int32.toInt x204 = Int32.toInt k + Int32.toInt 1 := by rw [ex204]; exact fb_addI (by omega) (by omega)
          refine lv_iinc (pc := 55) (v := x204) (lv' := [(1, .int x204), (0, .ref (b + 78))]) C0.1 C0.2.1 dX10_deepen_55 hl (k := 0) rfl (by rw [ex204]; rfl) (by decide) rfl (fun ls hl => ?_)
          refine lv_goto (pc := 58) (tgt := 13) C0.1 C0.2.1 dX10_deepen_58 (by decide) ?_
          exact ih13 x204 iv (va_up Fv 129 (upd (Fv 129) (Int32.toNatClampNeg k) (r203 + 1))) Gv _ _ _ (by omega) (by omega) (RO.f h3 (by decide)) h4 (by omega) hH hS (lv_sub hl [0, 1] rfl)
        · have c202 := congrArg Int32.toInt c202
          refine lv_bipush (pc := 29) (v := (-12)) C0.1 C0.2.1 dX10_deepen_29 (by decide) ?_
          exact xiret (pc := 31) C0 hr hH hS dX10_deepen_31 ⟨⟨(show 0 ≤ Int32.toInt (iv 78 12) ∧ Int32.toInt (iv 78 12) ≤ 600 from by omega), hbt, (show 0 ≤ Int32.toInt (iv 78 14) ∧ Int32.toInt (iv 78 14) ≤ 600 from by omega), hsrc, hTK, hCB, hWA, (show 0 ≤ Int32.toInt (iv 78 54) ∧ Int32.toInt (iv 78 54) ≤ 4000 from by omega), (show 0 ≤ Int32.toInt (iv 78 78) ∧ Int32.toInt (iv 78 78) ≤ 200 from by omega), hG, hKA, hKI⟩, (RO.tr RO.rf h3 (by decide) (by decide))⟩
  refine lv_aload_n (pc := 0) C0.1 C0.2.1 dX10_deepen_0 rfl (lv_at hl 0 rfl) ?_
  refine xget (pc := 1) C0 hH 78 15 clX10 ⟨Nat.le_of_ble_eq_true rfl, Nat.le_of_ble_eq_true rfl⟩ ⟨rfl, rfl⟩ (Nat.le_of_ble_eq_true rfl) fl_X10_211 (v := .int (i 78 15)) rfl dX10_deepen_1 ?_
  refine lv_iconst (pc := 4) (v := 1) C0.1 C0.2.1 dX10_deepen_4 (by decide) ?_
  refine lv_icmp_eq (pc := 5) (tgt := 11) C0.1 C0.2.1 dX10_deepen_5 (by decide) (fun c1 => ?_) (fun c1 => ?_)
  · have : Int32.toInt 1 = 1 := rfl
    have c1 := congrArg Int32.toInt c1
    refine lv_iconst (pc := 11) (v := 0) C0.1 C0.2.1 dX10_deepen_11 (by decide) ?_
    refine lv_istore_n (pc := 12) (lv' := [(1, .int 0), (0, .ref (b + 78))]) C0.1 C0.2.1 dX10_deepen_12 rfl hl (by decide) rfl (fun ls hl => ?_)
    exact L13 600 0 i F G _ _ _ (by decide) (by have : Int32.toInt 0 = 0 := rfl; omega) RO.rf (by have : Int32.toInt 1 = 1 := rfl; omega) (by have : Int32.toInt 0 = 0 := rfl; omega) hH hS (lv_sub hl [0, 1] rfl)
  · have : Int32.toInt 1 = 1 := rfl
    have c1 : ¬ _ := fun q => c1 (Int32.toInt_inj.mp q)
    refine lv_bipush (pc := 8) (v := (-3)) C0.1 C0.2.1 dX10_deepen_8 (by decide) ?_
    exact xiret (pc := 10) C0 hr hH hS dX10_deepen_10 ⟨⟨(show 0 ≤ Int32.toInt (i 78 12) ∧ Int32.toInt (i 78 12) ≤ 600 from by omega), hbt, (show 0 ≤ Int32.toInt (i 78 14) ∧ Int32.toInt (i 78 14) ≤ 600 from by omega), hsrc, hTK, hCB, hWA, (show 0 ≤ Int32.toInt (i 78 54) ∧ Int32.toInt (i 78 54) ≤ 4000 from by omega), (show 0 ≤ Int32.toInt (i 78 78) ∧ Int32.toInt (i 78 78) ≤ 200 from by omega), hG, hKA, hKI⟩, RO.rf⟩
