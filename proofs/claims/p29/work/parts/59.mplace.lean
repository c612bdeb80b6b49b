theorem dX10_place_89 : decode cX10_place 89 = .ok (.aload_n 0, 1) := by decide +kernel
theorem dX10_place_90 : decode cX10_place 90 = .ok (.getfield 76, 3) := by decide +kernel
theorem dX10_place_93 : decode cX10_place 93 = .ok (.aload_n 0, 1) := by decide +kernel
theorem dX10_place_94 : decode cX10_place 94 = .ok (.invokevirtual 296, 3) := by decide +kernel
theorem dX10_place_97 : decode cX10_place 97 = .ok (.iaload, 1) := by decide +kernel
theorem dX10_place_98 : decode cX10_place 98 = .ok (.aload_n 0, 1) := by decide +kernel
theorem dX10_place_99 : decode cX10_place 99 = .ok (.getfield 54, 3) := by decide +kernel
theorem dX10_place_102 : decode cX10_place 102 = .ok (.iload_n 1, 1) := by decide +kernel
theorem dX10_place_103 : decode cX10_place 103 = .ok (.iaload, 1) := by decide +kernel
theorem dX10_place_104 : decode cX10_place 104 = .ok (.if_icmp .le 16, 3) := by decide +kernel
theorem dX10_place_120 : decode cX10_place 120 = .ok (.aload_n 0, 1) := by decide +kernel
theorem dX10_place_121 : decode cX10_place 121 = .ok (.invokevirtual 296, 3) := by decide +kernel
theorem dX10_place_124 : decode cX10_place 124 = .ok (.istore_n 3, 1) := by decide +kernel
theorem dX10_place_125 : decode cX10_place 125 = .ok (.aload_n 0, 1) := by decide +kernel
theorem dX10_place_126 : decode cX10_place 126 = .ok (.getfield 76, 3) := by decide +kernel
theorem dX10_place_129 : decode cX10_place 129 = .ok (.iload_n 3, 1) := by decide +kernel
theorem dX10_place_130 : decode cX10_place 130 = .ok (.iaload, 1) := by decide +kernel
theorem dX10_place_131 : decode cX10_place 131 = .ok (.aload_n 0, 1) := by decide +kernel
theorem dX10_place_132 : decode cX10_place 132 = .ok (.getfield 54, 3) := by decide +kernel
theorem dX10_place_135 : decode cX10_place 135 = .ok (.iload_n 1, 1) := by decide +kernel
theorem dX10_place_136 : decode cX10_place 136 = .ok (.iaload, 1) := by decide +kernel
theorem dX10_place_137 : decode cX10_place 137 = .ok (.if_icmp .ne 11, 3) := by decide +kernel
theorem dX10_place_148 : decode cX10_place 148 = .ok (.aload_n 0, 1) := by decide +kernel
theorem dX10_place_149 : decode cX10_place 149 = .ok (.getfield 73, 3) := by decide +kernel
theorem dX10_place_152 : decode cX10_place 152 = .ok (.iload_n 3, 1) := by decide +kernel
theorem dX10_place_153 : decode cX10_place 153 = .ok (.iaload, 1) := by decide +kernel
theorem dX10_place_154 : decode cX10_place 154 = .ok (.iconst 3, 1) := by decide +kernel
theorem dX10_place_155 : decode cX10_place 155 = .ok (.if_icmp .eq 27, 3) := by decide +kernel
theorem dX10_place_182 : decode cX10_place 182 = .ok (.aload_n 0, 1) := by decide +kernel
theorem dX10_place_183 : decode cX10_place 183 = .ok (.iload_n 1, 1) := by decide +kernel
theorem dX10_place_184 : decode cX10_place 184 = .ok (.invokevirtual 320, 3) := by decide +kernel
theorem dX10_place_187 : decode cX10_place 187 = .ok (.return_, 1) := by decide +kernel
theorem dX10_place_158 : decode cX10_place 158 = .ok (.aload_n 0, 1) := by decide +kernel
theorem dX10_place_159 : decode cX10_place 159 = .ok (.getfield 73, 3) := by decide +kernel
theorem dX10_place_162 : decode cX10_place 162 = .ok (.iload_n 3, 1) := by decide +kernel
theorem dX10_place_163 : decode cX10_place 163 = .ok (.iaload, 1) := by decide +kernel
theorem dX10_place_164 : decode cX10_place 164 = .ok (.iconst 5, 1) := by decide +kernel
theorem dX10_place_165 : decode cX10_place 165 = .ok (.if_icmp .eq 17, 3) := by decide +kernel
theorem dX10_place_168 : decode cX10_place 168 = .ok (.aload_n 0, 1) := by decide +kernel
theorem dX10_place_169 : decode cX10_place 169 = .ok (.iconst 4, 1) := by decide +kernel
theorem dX10_place_170 : decode cX10_place 170 = .ok (.aload_n 0, 1) := by decide +kernel
theorem dX10_place_171 : decode cX10_place 171 = .ok (.getfield 45, 3) := by decide +kernel
theorem dX10_place_174 : decode cX10_place 174 = .ok (.iload_n 1, 1) := by decide +kernel
theorem dX10_place_175 : decode cX10_place 175 = .ok (.iaload, 1) := by decide +kernel
theorem dX10_place_176 : decode cX10_place 176 = .ok (.invokevirtual 254, 3) := by decide +kernel
theorem dX10_place_179 : decode cX10_place 179 = .ok (.istore 4, 2) := by decide +kernel
theorem dX10_place_181 : decode cX10_place 181 = .ok (.return_, 1) := by decide +kernel
theorem dX10_place_140 : decode cX10_place 140 = .ok (.aload_n 0, 1) := by decide +kernel
theorem dX10_place_141 : decode cX10_place 141 = .ok (.iload_n 3, 1) := by decide +kernel
theorem dX10_place_142 : decode cX10_place 142 = .ok (.invokevirtual 303, 3) := by decide +kernel
theorem dX10_place_145 : decode cX10_place 145 = .ok (.goto 37, 3) := by decide +kernel
theorem dX10_place_107 : decode cX10_place 107 = .ok (.aload_n 0, 1) := by decide +kernel
theorem dX10_place_108 : decode cX10_place 108 = .ok (.dup, 1) := by decide +kernel
theorem dX10_place_109 : decode cX10_place 109 = .ok (.getfield 293, 3) := by decide +kernel
theorem dX10_place_112 : decode cX10_place 112 = .ok (.iconst 1, 1) := by decide +kernel
theorem dX10_place_113 : decode cX10_place 113 = .ok (.isub, 1) := by decide +kernel
theorem dX10_place_114 : decode cX10_place 114 = .ok (.putfield 293, 3) := by decide +kernel
theorem dX10_place_117 : decode cX10_place 117 = .ok (.goto (-28), 3) := by decide +kernel
theorem dX10_place_0 : decode cX10_place 0 = .ok (.aload_n 0, 1) := by decide +kernel
theorem dX10_place_1 : decode cX10_place 1 = .ok (.iload_n 1, 1) := by decide +kernel
theorem dX10_place_2 : decode cX10_place 2 = .ok (.iconst 0, 1) := by decide +kernel
theorem dX10_place_3 : decode cX10_place 3 = .ok (.invokevirtual 310, 3) := by decide +kernel
theorem dX10_place_6 : decode cX10_place 6 = .ok (.istore_n 2, 1) := by decide +kernel
theorem dX10_place_7 : decode cX10_place 7 = .ok (.iload_n 2, 1) := by decide +kernel
theorem dX10_place_8 : decode cX10_place 8 = .ok (.bipush (-9), 2) := by decide +kernel
theorem dX10_place_10 : decode cX10_place 10 = .ok (.if_icmp .eq 70, 3) := by decide +kernel
theorem dX10_place_80 : decode cX10_place 80 = .ok (.aload_n 0, 1) := by decide +kernel
theorem dX10_place_81 : decode cX10_place 81 = .ok (.getfield 57, 3) := by decide +kernel
theorem dX10_place_84 : decode cX10_place 84 = .ok (.iload_n 1, 1) := by decide +kernel
theorem dX10_place_85 : decode cX10_place 85 = .ok (.baload, 1) := by decide +kernel
theorem dX10_place_86 : decode cX10_place 86 = .ok (.ifCond .eq 96, 3) := by decide +kernel
theorem dX10_place_13 : decode cX10_place 13 = .ok (.aload_n 0, 1) := by decide +kernel
theorem dX10_place_14 : decode cX10_place 14 = .ok (.invokevirtual 296, 3) := by decide +kernel
theorem dX10_place_17 : decode cX10_place 17 = .ok (.istore_n 3, 1) := by decide +kernel
theorem dX10_place_18 : decode cX10_place 18 = .ok (.aload_n 0, 1) := by decide +kernel
theorem dX10_place_19 : decode cX10_place 19 = .ok (.getfield 73, 3) := by decide +kernel
theorem dX10_place_22 : decode cX10_place 22 = .ok (.iload_n 3, 1) := by decide +kernel
theorem dX10_place_23 : decode cX10_place 23 = .ok (.iaload, 1) := by decide +kernel
theorem dX10_place_24 : decode cX10_place 24 = .ok (.iconst 4, 1) := by decide +kernel
theorem dX10_place_25 : decode cX10_place 25 = .ok (.if_icmp .ne 25, 3) := by decide +kernel
theorem dX10_place_50 : decode cX10_place 50 = .ok (.aload_n 0, 1) := by decide +kernel
theorem dX10_place_51 : decode cX10_place 51 = .ok (.iconst 5, 1) := by decide +kernel
theorem dX10_place_52 : decode cX10_place 52 = .ok (.aload_n 0, 1) := by decide +kernel
theorem dX10_place_53 : decode cX10_place 53 = .ok (.getfield 45, 3) := by decide +kernel
theorem dX10_place_56 : decode cX10_place 56 = .ok (.iload_n 1, 1) := by decide +kernel
theorem dX10_place_57 : decode cX10_place 57 = .ok (.iaload, 1) := by decide +kernel
theorem dX10_place_58 : decode cX10_place 58 = .ok (.invokevirtual 254, 3) := by decide +kernel
theorem dX10_place_61 : decode cX10_place 61 = .ok (.istore 4, 2) := by decide +kernel
theorem dX10_place_63 : decode cX10_place 63 = .ok (.return_, 1) := by decide +kernel
theorem dX10_place_28 : decode cX10_place 28 = .ok (.aload_n 0, 1) := by decide +kernel
theorem dX10_place_29 : decode cX10_place 29 = .ok (.getfield 61, 3) := by decide +kernel
theorem dX10_place_32 : decode cX10_place 32 = .ok (.aload_n 0, 1) := by decide +kernel
theorem dX10_place_33 : decode cX10_place 33 = .ok (.getfield 82, 3) := by decide +kernel
theorem dX10_place_36 : decode cX10_place 36 = .ok (.iload_n 3, 1) := by decide +kernel
theorem dX10_place_37 : decode cX10_place 37 = .ok (.iaload, 1) := by decide +kernel
theorem dX10_place_38 : decode cX10_place 38 = .ok (.laload, 1) := by decide +kernel
theorem dX10_place_39 : decode cX10_place 39 = .ok (.aload_n 0, 1) := by decide +kernel
theorem dX10_place_40 : decode cX10_place 40 = .ok (.getfield 17, 3) := by decide +kernel
theorem dX10_place_43 : decode cX10_place 43 = .ok (.iload_n 2, 1) := by decide +kernel
theorem dX10_place_44 : decode cX10_place 44 = .ok (.iaload, 1) := by decide +kernel
theorem dX10_place_45 : decode cX10_place 45 = .ok (.i2l, 1) := by decide +kernel
theorem dX10_place_46 : decode cX10_place 46 = .ok (.lcmp, 1) := by decide +kernel
theorem dX10_place_47 : decode cX10_place 47 = .ok (.ifCond .eq 17, 3) := by decide +kernel
theorem dX10_place_64 : decode cX10_place 64 = .ok (.aload_n 0, 1) := by decide +kernel
theorem dX10_place_65 : decode cX10_place 65 = .ok (.dup, 1) := by decide +kernel
theorem dX10_place_66 : decode cX10_place 66 = .ok (.getfield 293, 3) := by decide +kernel
theorem dX10_place_69 : decode cX10_place 69 = .ok (.iconst 1, 1) := by decide +kernel
theorem dX10_place_70 : decode cX10_place 70 = .ok (.isub, 1) := by decide +kernel
theorem dX10_place_71 : decode cX10_place 71 = .ok (.putfield 293, 3) := by decide +kernel
theorem dX10_place_74 : decode cX10_place 74 = .ok (.aload_n 0, 1) := by decide +kernel
theorem dX10_place_75 : decode cX10_place 75 = .ok (.iload_n 1, 1) := by decide +kernel
theorem dX10_place_76 : decode cX10_place 76 = .ok (.invokevirtual 320, 3) := by decide +kernel
theorem dX10_place_79 : decode cX10_place 79 = .ok (.return_, 1) := by decide +kernel
set_option maxHeartbeats 4000000 in
set_option maxRecDepth 100000 in
theorem m_place (l : Launch) (D : va_G) (tA : Nat → ClassId) (b : Nat) (i F : Nat → Nat → Int32) (G : Nat → Nat → Int64) (x : Int32) (k : Int) (hT : TMm i F) (hP : PMm k i F) (hTK : TKm i F) (hPI : PLI i) (hBR : BR i) (hk1 : 0 < k ∨ (i 78 51).toInt = 1) (hx : 0 ≤ x.toInt ∧ x.toInt < (i 78 19).toInt) (hd : 0 < k ∨ F 93 (Int32.toNatClampNeg x) = 1) (him : (i 78 40).toInt < 1202) (hpm : (i 78 47).toInt < 1802) : xMV l yX10_place cX10_place 5 none 2 44 D tA b 78 52 i F G [.ref (b + 78), .int x] (fun u => RO [30, 31, 40, 47, 51] [95, 102, 103, 104, 105, 106, 107, 108, 109, 110, 111, 112] i F G u ∧ TMm u.1 u.2.1 ∧ PLI u.1 ∧ ((u.1 78 30).toInt = 0 → PMm 1 u.1 u.2.1) ∧ ((u.1 78 40).toInt ≤ (i 78 40).toInt + 1 ∧ (u.1 78 47).toInt ≤ (i 78 47).toInt + 1)) := by
  refine xstart RX10 rfl (by decide) (Nat.le_of_ble_eq_true rfl) ?_
  intro p e s m below meth c ls C0 hr hH hS hl
  have hl : lv_has ls 5 [(0, .ref (b + 78)), (1, .int x)] := hl
  have rg_x := fb_rng x
  have hTL := TMm.lin hT
  have hPl := hP.1
  have hTKl := hTK.1
  have L89 : ∀ (d : Nat) (iv Fv : Nat → Nat → Int32) (Gv : Nat → Nat → Int64) (H : Heap) (locs : List Loc) (ls : Array Slot), (RO [51] [] i F G (iv, Fv, Gv)) → (PMm k iv Fv) → ((iv 78 51).toInt ≤ d) → ((iv 78 51).toInt ≤ (i 78 51).toInt) → Hd D tA b 78 52 zz iv Fv Gv H → va_S (xA b 78 52) s.heap H locs → lv_has ls 5 [(0, .ref (b + 78)), (1, .int x)] → W p l e (xR 2 44) s m ([.ref (b + 78), .int x] : List Value).toArray below meth c H locs 0 0 (MQ below (va_Qv (fun u => RO [30, 31, 40, 47, 51] [95, 102, 103, 104, 105, 106, 107, 108, 109, 110, 111, 112] i F G u ∧ TMm u.1 u.2.1 ∧ PLI u.1 ∧ ((u.1 78 30).toInt = 0 → PMm 1 u.1 u.2.1) ∧ ((u.1 78 40).toInt ≤ (i 78 40).toInt + 1 ∧ (u.1 78 47).toInt ≤ (i 78 47).toInt + 1)) (xB D tA b 78 52 zz) (xA b 78 52)) ([.ref (b + 78), .int x] : List Value).toArray s 0 0 (xA b 78 52)) (F0 m 89 ls []) := by
    intro d
    induction d with
    | zero =>
      intro iv Fv Gv H locs ls h1 h2 h3 h4 hH hS hl
      have hP := h2
      have hT : TMm iv Fv := TMm.ro hT h1 (by decide) (by decide)
      have hTK : TKm iv Fv := TKm.ro hTK h1 (by decide)
      have hPI : PLI iv := PLI.ro hPI h1 (by decide)
      have hBR : BR iv := BR.ro hBR h1 (by decide)
      have ek19 : Int32.toInt (iv 78 19) = Int32.toInt (i 78 19) := congrArg Int32.toInt (h1.1 78 19 (Or.inr (by decide)))
      have ek32 : Int32.toInt (iv 78 32) = Int32.toInt (i 78 32) := congrArg Int32.toInt (h1.1 78 32 (Or.inr (by decide)))
      have ek40 : Int32.toInt (iv 78 40) = Int32.toInt (i 78 40) := congrArg Int32.toInt (h1.1 78 40 (Or.inr (by decide)))
      have ek47 : Int32.toInt (iv 78 47) = Int32.toInt (i 78 47) := congrArg Int32.toInt (h1.1 78 47 (Or.inr (by decide)))
      have hPl := hP.1
      have hTL := TMm.lin hT
      have hTKl := hTK.1
      have hclx := clI (x := x) hx.1
      have hco := hTK.2.2 (Int32.toNatClampNeg x) (by omega)
      exfalso
      omega
    | succ d ih89 =>
      intro iv Fv Gv H locs ls h1 h2 h3 h4 hH hS hl
      have hP := h2
      have hT : TMm iv Fv := TMm.ro hT h1 (by decide) (by decide)
      have hTK : TKm iv Fv := TKm.ro hTK h1 (by decide)
      have hPI : PLI iv := PLI.ro hPI h1 (by decide)
      have hBR : BR iv := BR.ro hBR h1 (by decide)
      have ek19 : Int32.toInt (iv 78 19) = Int32.toInt (i 78 19) := congrArg Int32.toInt (h1.1 78 19 (Or.inr (by decide)))
      have ek32 : Int32.toInt (iv 78 32) = Int32.toInt (i 78 32) := congrArg Int32.toInt (h1.1 78 32 (Or.inr (by decide)))
      have ek40 : Int32.toInt (iv 78 40) = Int32.toInt (i 78 40) := congrArg Int32.toInt (h1.1 78 40 (Or.inr (by decide)))
      have ek47 : Int32.toInt (iv 78 47) = Int32.toInt (i 78 47) := congrArg Int32.toInt (h1.1 78 47 (Or.inr (by decide)))
      have hPl := hP.1
      have hTL := TMm.lin hT
      have hTKl := hTK.1
      have hclx := clI (x := x) hx.1
      have hco := hTK.2.2 (Int32.toNatClampNeg x) (by omega)
      refine lv_aload_n (pc := 89) C0.1 C0.2.1 dX10_place_89 rfl (lv_at hl 0 rfl) ?_
      refine xget (pc := 90) C0 hH 78 34 clX10 ⟨Nat.le_of_ble_eq_true rfl, Nat.le_of_ble_eq_true rfl⟩ ⟨rfl, rfl⟩ (Nat.le_of_ble_eq_true rfl) fl_X10_76 (v := .ref (b + 99)) rfl dX10_place_90 ?_
      refine lv_aload_n (pc := 93) C0.1 C0.2.1 dX10_place_93 rfl (lv_at hl 0 rfl) ?_
      refine xcVI (pc := 94) 78 [] (m_topmost l D tA b iv Fv Gv k hT hP) C0 hH hS clX10 rfl ⟨⟨Nat.le_of_ble_eq_true rfl, Nat.le_of_ble_eq_true rfl⟩, rfl, rfl⟩ cw_X10_296 rfl ⟨Nat.le_of_ble_eq_true rfl, Nat.le_of_ble_eq_true rfl⟩ hl.1 rfl (Nat.le_of_ble_eq_true rfl) dX10_place_94 ⟨Nat.le_of_ble_eq_true rfl, Nat.le_of_ble_eq_true rfl⟩ (fun r201 ir201 Fr201 Gr201 _ locs hp hH hS => ?_)
      obtain ⟨hu, htpr201, htqr201, htzr201⟩ := hp
      cases hu
      have hBtr201 := TMm.bt hT (x := r201) (show 0 ≤ Int32.toInt r201 ∧ Int32.toInt r201 < Int32.toInt (iv 78 32) from htpr201)
      refine xiald (pc := 97) (N := 1202) C0 hH 99 ⟨Nat.le_of_ble_eq_true rfl, Nat.le_of_ble_eq_true rfl⟩ ⟨rfl, rfl⟩ (vI (by omega) (by omega)) dX10_place_97 ?_
      refine lv_aload_n (pc := 98) C0.1 C0.2.1 dX10_place_98 rfl (lv_at hl 0 rfl) ?_
      refine xget (pc := 99) C0 hH 78 24 clX10 ⟨Nat.le_of_ble_eq_true rfl, Nat.le_of_ble_eq_true rfl⟩ ⟨rfl, rfl⟩ (Nat.le_of_ble_eq_true rfl) fl_X10_54 (v := .ref (b + 92)) rfl dX10_place_99 ?_
      refine lv_iload_n (pc := 102) C0.1 C0.2.1 dX10_place_102 rfl (lv_at hl 1 rfl) ?_
      refine xiald (pc := 103) (N := 600) C0 hH 92 ⟨Nat.le_of_ble_eq_true rfl, Nat.le_of_ble_eq_true rfl⟩ ⟨rfl, rfl⟩ (vI (by omega) (by omega)) dX10_place_103 ?_
      refine lv_icmp_le (pc := 104) (tgt := 120) C0.1 C0.2.1 dX10_place_104 (by decide) (fun c202 => ?_) (fun c202 => ?_)
      · have c202 := Int32.le_iff_toInt_le.mp c202
        refine lv_aload_n (pc := 120) C0.1 C0.2.1 dX10_place_120 rfl (lv_at hl 0 rfl) ?_
        refine xcVI (pc := 121) 78 [] (m_topmost l D tA b iv Fv Gv k hT hP) C0 hH hS clX10 rfl ⟨⟨Nat.le_of_ble_eq_true rfl, Nat.le_of_ble_eq_true rfl⟩, rfl, rfl⟩ cw_X10_296 rfl ⟨Nat.le_of_ble_eq_true rfl, Nat.le_of_ble_eq_true rfl⟩ hl.1 rfl (Nat.le_of_ble_eq_true rfl) dX10_place_121 ⟨Nat.le_of_ble_eq_true rfl, Nat.le_of_ble_eq_true rfl⟩ (fun r203 ir203 Fr203 Gr203 _ locs hp hH hS => ?_)
        obtain ⟨hu, htpr203, htqr203, htzr203⟩ := hp
        cases hu
        have hBtr203 := TMm.bt hT (x := r203) (show 0 ≤ Int32.toInt r203 ∧ Int32.toInt r203 < Int32.toInt (iv 78 32) from htpr203)
        refine lv_istore_n (pc := 124) (lv' := [(3, .int r203), (0, .ref (b + 78)), (1, .int x)]) C0.1 C0.2.1 dX10_place_124 rfl hl (by decide) rfl (fun ls hl => ?_)
        refine lv_aload_n (pc := 125) C0.1 C0.2.1 dX10_place_125 rfl (lv_at hl 1 rfl) ?_
        refine xget (pc := 126) C0 hH 78 34 clX10 ⟨Nat.le_of_ble_eq_true rfl, Nat.le_of_ble_eq_true rfl⟩ ⟨rfl, rfl⟩ (Nat.le_of_ble_eq_true rfl) fl_X10_76 (v := .ref (b + 99)) rfl dX10_place_126 ?_
        refine lv_iload_n (pc := 129) C0.1 C0.2.1 dX10_place_129 rfl (lv_at hl 0 rfl) ?_
        refine xiald (pc := 130) (N := 1202) C0 hH 99 ⟨Nat.le_of_ble_eq_true rfl, Nat.le_of_ble_eq_true rfl⟩ ⟨rfl, rfl⟩ (vI (by omega) (by omega)) dX10_place_130 ?_
        refine lv_aload_n (pc := 131) C0.1 C0.2.1 dX10_place_131 rfl (lv_at hl 1 rfl) ?_
        refine xget (pc := 132) C0 hH 78 24 clX10 ⟨Nat.le_of_ble_eq_true rfl, Nat.le_of_ble_eq_true rfl⟩ ⟨rfl, rfl⟩ (Nat.le_of_ble_eq_true rfl) fl_X10_54 (v := .ref (b + 92)) rfl dX10_place_132 ?_
        refine lv_iload_n (pc := 135) C0.1 C0.2.1 dX10_place_135 rfl (lv_at hl 2 rfl) ?_
        refine xiald (pc := 136) (N := 600) C0 hH 92 ⟨Nat.le_of_ble_eq_true rfl, Nat.le_of_ble_eq_true rfl⟩ ⟨rfl, rfl⟩ (vI (by omega) (by omega)) dX10_place_136 ?_
        refine lv_icmp_ne (pc := 137) (tgt := 148) C0.1 C0.2.1 dX10_place_137 (by decide) (fun c204 => ?_) (fun c204 => ?_)
        · have c204 : ¬ _ := fun q => c204 (Int32.toInt_inj.mp q)
          refine lv_aload_n (pc := 148) C0.1 C0.2.1 dX10_place_148 rfl (lv_at hl 1 rfl) ?_
          refine xget (pc := 149) C0 hH 78 33 clX10 ⟨Nat.le_of_ble_eq_true rfl, Nat.le_of_ble_eq_true rfl⟩ ⟨rfl, rfl⟩ (Nat.le_of_ble_eq_true rfl) fl_X10_73 (v := .ref (b + 98)) rfl dX10_place_149 ?_
          refine lv_iload_n (pc := 152) C0.1 C0.2.1 dX10_place_152 rfl (lv_at hl 0 rfl) ?_
          refine xiald (pc := 153) (N := 1202) C0 hH 98 ⟨Nat.le_of_ble_eq_true rfl, Nat.le_of_ble_eq_true rfl⟩ ⟨rfl, rfl⟩ (vI (by omega) (by omega)) dX10_place_153 ?_
          refine lv_iconst (pc := 154) (v := 3) C0.1 C0.2.1 dX10_place_154 (by decide) ?_
          refine lv_icmp_eq (pc := 155) (tgt := 182) C0.1 C0.2.1 dX10_place_155 (by decide) (fun c205 => ?_) (fun c205 => ?_)
          · have : Int32.toInt 3 = 3 := rfl
            have c205 := congrArg Int32.toInt c205
            have hn1 : ¬ (iv 78 51).toInt = 1 := fun q => by
              have q0 := htzr203 q
              have q1 : Int32.toInt (Fv 98 (Int32.toNatClampNeg r203)) = Int32.toInt 3 ∨ Int32.toInt (Fv 98 (Int32.toNatClampNeg r203)) = Int32.toInt 5 := (by first | exact Or.inl (by assumption) | exact Or.inr (by assumption))
              rw [q0, show Int32.toNatClampNeg 0 = 0 from rfl, hP.2.2.2.1] at q1
              rcases q1 with w | w
              · exact absurd w (by decide)
              · exact absurd w (by decide)
            have hk0 : 0 < k := (by omega)
            refine lv_aload_n (pc := 182) C0.1 C0.2.1 dX10_place_182 rfl (lv_at hl 1 rfl) ?_
            refine lv_iload_n (pc := 183) C0.1 C0.2.1 dX10_place_183 rfl (lv_at hl 2 rfl) ?_
            refine xcVV (pc := 184) 78 [.int x] (m_goOn l D tA b iv Fv Gv x k hT hP (show 1 < Int32.toInt (iv 78 51) ∨ 0 < k from by omega) (by omega) (show Int32.toInt (iv 78 47) < 1802 from by omega)) C0 hH hS clX10 rfl ⟨⟨Nat.le_of_ble_eq_true rfl, Nat.le_of_ble_eq_true rfl⟩, rfl, rfl⟩ cw_X10_320 rfl ⟨Nat.le_of_ble_eq_true rfl, Nat.le_of_ble_eq_true rfl⟩ hl.1 rfl (Nat.le_of_ble_eq_true rfl) dX10_place_184 ⟨Nat.le_of_ble_eq_true rfl, Nat.le_of_ble_eq_true rfl⟩ (fun ir206 Fr206 Gr206 _ locs hp hH hS => ?_)
            obtain ⟨honr206, hT, hptr206⟩ := hp
            have hT : TMm ir206 Fr206 := hT
            have hptr206 : (ir206 78 47).toInt = Int32.toInt (iv 78 47) + 1 := hptr206
            have hTL := TMm.lin hT
            have hP : PMm k ir206 Fr206 := PMm.ro (i := iv) (F := Fv) hP honr206 (by decide) (by decide)
            have hTK : TKm ir206 Fr206 := TKm.ro (i := iv) (F := Fv) hTK honr206 (by decide)
            have hPI : PLI ir206 := PLI.ro (i := iv) (F := Fv) hPI honr206 (by decide)
            have hBR : BR ir206 := BR.ro (i := iv) (F := Fv) hBR honr206 (by decide)
            have ek_32r206 : Int32.toInt (ir206 78 32) = Int32.toInt (iv 78 32) := congrArg Int32.toInt (honr206.1 78 32 (Or.inr (by decide)))
            have ek_40r206 : Int32.toInt (ir206 78 40) = Int32.toInt (iv 78 40) := congrArg Int32.toInt (honr206.1 78 40 (Or.inr (by decide)))
            have ek_51r206 : Int32.toInt (ir206 78 51) = Int32.toInt (iv 78 51) := congrArg Int32.toInt (honr206.1 78 51 (Or.inr (by decide)))
            have ek_19r206 : Int32.toInt (ir206 78 19) = Int32.toInt (iv 78 19) := congrArg Int32.toInt (honr206.1 78 19 (Or.inr (by decide)))
            have hTKl := hTK.1
            exact xvret (pc := 187) C0 hr hH hS dX10_place_187 ⟨(RO.tr (RO.tr RO.rf h1 (by decide) (by decide)) honr206 (by decide) (by decide)), hT, hPI, (fun _ => PMm.one hP (by omega)), (show Int32.toInt (ir206 78 40) ≤ _ ∧ Int32.toInt (ir206 78 47) ≤ _ from by omega)⟩
          · have : Int32.toInt 3 = 3 := rfl
            have c205 : ¬ _ := fun q => c205 (Int32.toInt_inj.mp q)
            refine lv_aload_n (pc := 158) C0.1 C0.2.1 dX10_place_158 rfl (lv_at hl 1 rfl) ?_
            refine xget (pc := 159) C0 hH 78 33 clX10 ⟨Nat.le_of_ble_eq_true rfl, Nat.le_of_ble_eq_true rfl⟩ ⟨rfl, rfl⟩ (Nat.le_of_ble_eq_true rfl) fl_X10_73 (v := .ref (b + 98)) rfl dX10_place_159 ?_
            refine lv_iload_n (pc := 162) C0.1 C0.2.1 dX10_place_162 rfl (lv_at hl 0 rfl) ?_
            refine xiald (pc := 163) (N := 1202) C0 hH 98 ⟨Nat.le_of_ble_eq_true rfl, Nat.le_of_ble_eq_true rfl⟩ ⟨rfl, rfl⟩ (vI (by omega) (by omega)) dX10_place_163 ?_
            refine lv_iconst (pc := 164) (v := 5) C0.1 C0.2.1 dX10_place_164 (by decide) ?_
            refine lv_icmp_eq (pc := 165) (tgt := 182) C0.1 C0.2.1 dX10_place_165 (by decide) (fun c207 => ?_) (fun c207 => ?_)
            · have : Int32.toInt 5 = 5 := rfl
              have c207 := congrArg Int32.toInt c207
              have hn1 : ¬ (iv 78 51).toInt = 1 := fun q => by
                have q0 := htzr203 q
                have q1 : Int32.toInt (Fv 98 (Int32.toNatClampNeg r203)) = Int32.toInt 3 ∨ Int32.toInt (Fv 98 (Int32.toNatClampNeg r203)) = Int32.toInt 5 := (by first | exact Or.inl (by assumption) | exact Or.inr (by assumption))
                rw [q0, show Int32.toNatClampNeg 0 = 0 from rfl, hP.2.2.2.1] at q1
                rcases q1 with w | w
                · exact absurd w (by decide)
                · exact absurd w (by decide)
              have hk0 : 0 < k := (by omega)
              refine lv_aload_n (pc := 182) C0.1 C0.2.1 dX10_place_182 rfl (lv_at hl 1 rfl) ?_
              refine lv_iload_n (pc := 183) C0.1 C0.2.1 dX10_place_183 rfl (lv_at hl 2 rfl) ?_
              refine xcVV (pc := 184) 78 [.int x] (m_goOn l D tA b iv Fv Gv x k hT hP (show 1 < Int32.toInt (iv 78 51) ∨ 0 < k from by omega) (by omega) (show Int32.toInt (iv 78 47) < 1802 from by omega)) C0 hH hS clX10 rfl ⟨⟨Nat.le_of_ble_eq_true rfl, Nat.le_of_ble_eq_true rfl⟩, rfl, rfl⟩ cw_X10_320 rfl ⟨Nat.le_of_ble_eq_true rfl, Nat.le_of_ble_eq_true rfl⟩ hl.1 rfl (Nat.le_of_ble_eq_true rfl) dX10_place_184 ⟨Nat.le_of_ble_eq_true rfl, Nat.le_of_ble_eq_true rfl⟩ (fun ir208 Fr208 Gr208 _ locs hp hH hS => ?_)
              obtain ⟨honr208, hT, hptr208⟩ := hp
              have hT : TMm ir208 Fr208 := hT
              have hptr208 : (ir208 78 47).toInt = Int32.toInt (iv 78 47) + 1 := hptr208
              have hTL := TMm.lin hT
              have hP : PMm k ir208 Fr208 := PMm.ro (i := iv) (F := Fv) hP honr208 (by decide) (by decide)
              have hTK : TKm ir208 Fr208 := TKm.ro (i := iv) (F := Fv) hTK honr208 (by decide)
              have hPI : PLI ir208 := PLI.ro (i := iv) (F := Fv) hPI honr208 (by decide)
              have hBR : BR ir208 := BR.ro (i := iv) (F := Fv) hBR honr208 (by decide)
              have ek_32r208 : Int32.toInt (ir208 78 32) = Int32.toInt (iv 78 32) := congrArg Int32.toInt (honr208.1 78 32 (Or.inr (by decide)))
              have ek_40r208 : Int32.toInt (ir208 78 40) = Int32.toInt (iv 78 40) := congrArg Int32.toInt (honr208.1 78 40 (Or.inr (by decide)))
              have ek_51r208 : Int32.toInt (ir208 78 51) = Int32.toInt (iv 78 51) := congrArg Int32.toInt (honr208.1 78 51 (Or.inr (by decide)))
              have ek_19r208 : Int32.toInt (ir208 78 19) = Int32.toInt (iv 78 19) := congrArg Int32.toInt (honr208.1 78 19 (Or.inr (by decide)))
              have hTKl := hTK.1
              exact xvret (pc := 187) C0 hr hH hS dX10_place_187 ⟨(RO.tr (RO.tr RO.rf h1 (by decide) (by decide)) honr208 (by decide) (by decide)), hT, hPI, (fun _ => PMm.one hP (by omega)), (show Int32.toInt (ir208 78 40) ≤ _ ∧ Int32.toInt (ir208 78 47) ≤ _ from by omega)⟩
            · have : Int32.toInt 5 = 5 := rfl
              have c207 : ¬ _ := fun q => c207 (Int32.toInt_inj.mp q)
              refine lv_aload_n (pc := 168) C0.1 C0.2.1 dX10_place_168 rfl (lv_at hl 1 rfl) ?_
              refine lv_iconst (pc := 169) (v := 4) C0.1 C0.2.1 dX10_place_169 (by decide) ?_
              refine lv_aload_n (pc := 170) C0.1 C0.2.1 dX10_place_170 rfl (lv_at hl 1 rfl) ?_
              refine xget (pc := 171) C0 hH 78 21 clX10 ⟨Nat.le_of_ble_eq_true rfl, Nat.le_of_ble_eq_true rfl⟩ ⟨rfl, rfl⟩ (Nat.le_of_ble_eq_true rfl) fl_X10_45 (v := .ref (b + 89)) rfl dX10_place_171 ?_
              refine lv_iload_n (pc := 174) C0.1 C0.2.1 dX10_place_174 rfl (lv_at hl 2 rfl) ?_
              refine xiald (pc := 175) (N := 600) C0 hH 89 ⟨Nat.le_of_ble_eq_true rfl, Nat.le_of_ble_eq_true rfl⟩ ⟨rfl, rfl⟩ (vI (by omega) (by omega)) dX10_place_175 ?_
              refine xcVI (pc := 176) 78 [.int 4, .int (Fv 89 (Int32.toNatClampNeg x))] (m_fail l D tA b iv Fv Gv 4 (Fv 89 (Int32.toNatClampNeg x))) C0 hH hS clX10 rfl ⟨⟨Nat.le_of_ble_eq_true rfl, Nat.le_of_ble_eq_true rfl⟩, rfl, rfl⟩ cw_X10_254 rfl ⟨Nat.le_of_ble_eq_true rfl, Nat.le_of_ble_eq_true rfl⟩ hl.1 rfl (Nat.le_of_ble_eq_true rfl) dX10_place_176 ⟨Nat.le_of_ble_eq_true rfl, Nat.le_of_ble_eq_true rfl⟩ (fun r209 ir209 Fr209 Gr209 _ locs hp hH hS => ?_)
              obtain ⟨hu, rfl⟩ := hp
              cases hu
              have hH : Hd D tA b 78 52 zz (up2 (up2 iv 78 30 4) 78 31 (Fv 89 (Int32.toNatClampNeg x))) Fv Gv _ := hH
              refine lv_istore (pc := 179) (lv' := [(4, .int 0), (3, .int r203), (0, .ref (b + 78)), (1, .int x)]) C0.1 C0.2.1 dX10_place_179 hl (by decide) rfl (fun ls hl => ?_)
              exact xvret (pc := 181) C0 hr hH hS dX10_place_181 ⟨(RO.i (RO.i (RO.tr RO.rf h1 (by decide) (by decide)) (by decide)) (by decide)), hT, (Or.inr (show 0 ≤ Int32.toInt (Fv 89 (Int32.toNatClampNeg x)) ∧ Int32.toInt (Fv 89 (Int32.toNatClampNeg x)) ≤ 600 from by have := hTK.2.1 (Int32.toNatClampNeg x); omega)), (fun q => absurd q (show ¬ Int32.toInt 4 = 0 from by decide)), (show Int32.toInt (iv 78 40) ≤ _ ∧ Int32.toInt (iv 78 47) ≤ _ from by omega)⟩
        · have c204 := congrArg Int32.toInt c204
          refine lv_aload_n (pc := 140) C0.1 C0.2.1 dX10_place_140 rfl (lv_at hl 1 rfl) ?_
          refine lv_iload_n (pc := 141) C0.1 C0.2.1 dX10_place_141 rfl (lv_at hl 0 rfl) ?_
          refine xcVV (pc := 142) 78 [.int r203] (m_newItem l D tA b iv Fv Gv r203 hT (show 0 ≤ Int32.toInt r203 ∧ Int32.toInt r203 < Int32.toInt (iv 78 32) from by omega) (show Int32.toInt (iv 78 40) < 1202 from by omega)) C0 hH hS clX10 rfl ⟨⟨Nat.le_of_ble_eq_true rfl, Nat.le_of_ble_eq_true rfl⟩, rfl, rfl⟩ cw_X10_303 rfl ⟨Nat.le_of_ble_eq_true rfl, Nat.le_of_ble_eq_true rfl⟩ hl.1 rfl (Nat.le_of_ble_eq_true rfl) dX10_place_142 ⟨Nat.le_of_ble_eq_true rfl, Nat.le_of_ble_eq_true rfl⟩ (fun ir210 Fr210 Gr210 _ locs hp hH hS => ?_)
          obtain ⟨honr210, hT, h40r210, hmor210, hn1r210⟩ := hp
          have hT : TMm ir210 Fr210 := hT
          have h40r210 : (ir210 78 40).toInt = Int32.toInt (iv 78 40) + 1 := h40r210
          have hTL := TMm.lin hT
          have hTK : TKm ir210 Fr210 := TKm.ro (i := iv) (F := Fv) hTK honr210 (by decide)
          have hPI : PLI ir210 := PLI.ro (i := iv) (F := Fv) hPI honr210 (by decide)
          have hP : PMm 1 ir210 Fr210 := PMm.grow (i := iv) (F := Fv) (k2 := 1) hP (by have : Int32.toInt (ir210 78 32) = Int32.toInt (iv 78 32) := congrArg Int32.toInt (honr210.1 78 32 (Or.inr (by decide))); omega) (honr210.1 78 51 (Or.inr (by decide))) (honr210.2 113 (by decide)).1 (congrFun (honr210.2 98 (by decide)).1 0) (congrFun (honr210.2 99 (by decide)).1 0) (fun c _ => hmor210 c) (fun _ => if q : 0 < k then Or.inl q else Or.inr (by have q1 := htzr203 (by omega); have q2 := hn1r210; rw [q1] at q2; exact q2))
          have hBR : BR ir210 := BR.ro (i := iv) (F := Fv) hBR honr210 (by decide)
          have ek_32r210 : Int32.toInt (ir210 78 32) = Int32.toInt (iv 78 32) := congrArg Int32.toInt (honr210.1 78 32 (Or.inr (by decide)))
          have ek_47r210 : Int32.toInt (ir210 78 47) = Int32.toInt (iv 78 47) := congrArg Int32.toInt (honr210.1 78 47 (Or.inr (by decide)))
          have ek_51r210 : Int32.toInt (ir210 78 51) = Int32.toInt (iv 78 51) := congrArg Int32.toInt (honr210.1 78 51 (Or.inr (by decide)))
          have ek_19r210 : Int32.toInt (ir210 78 19) = Int32.toInt (iv 78 19) := congrArg Int32.toInt (honr210.1 78 19 (Or.inr (by decide)))
          have hTKl := hTK.1
          refine lv_goto (pc := 145) (tgt := 182) C0.1 C0.2.1 dX10_place_145 (by decide) ?_
          refine lv_aload_n (pc := 182) C0.1 C0.2.1 dX10_place_182 rfl (lv_at hl 1 rfl) ?_
          refine lv_iload_n (pc := 183) C0.1 C0.2.1 dX10_place_183 rfl (lv_at hl 2 rfl) ?_
          refine xcVV (pc := 184) 78 [.int x] (m_goOn l D tA b ir210 Fr210 Gr210 x 1 hT hP (show 1 < Int32.toInt (ir210 78 51) ∨ 0 < 1 from by omega) (by omega) (show Int32.toInt (ir210 78 47) < 1802 from by omega)) C0 hH hS clX10 rfl ⟨⟨Nat.le_of_ble_eq_true rfl, Nat.le_of_ble_eq_true rfl⟩, rfl, rfl⟩ cw_X10_320 rfl ⟨Nat.le_of_ble_eq_true rfl, Nat.le_of_ble_eq_true rfl⟩ hl.1 rfl (Nat.le_of_ble_eq_true rfl) dX10_place_184 ⟨Nat.le_of_ble_eq_true rfl, Nat.le_of_ble_eq_true rfl⟩ (fun ir211 Fr211 Gr211 _ locs hp hH hS => ?_)
          obtain ⟨honr211, hT, hptr211⟩ := hp
          have hT : TMm ir211 Fr211 := hT
          have hptr211 : (ir211 78 47).toInt = Int32.toInt (ir210 78 47) + 1 := hptr211
          have hTL := TMm.lin hT
          have hP : PMm 1 ir211 Fr211 := PMm.ro (i := ir210) (F := Fr210) hP honr211 (by decide) (by decide)
          have hTK : TKm ir211 Fr211 := TKm.ro (i := ir210) (F := Fr210) hTK honr211 (by decide)
          have hPI : PLI ir211 := PLI.ro (i := ir210) (F := Fr210) hPI honr211 (by decide)
          have hBR : BR ir211 := BR.ro (i := ir210) (F := Fr210) hBR honr211 (by decide)
          have ek_32r211 : Int32.toInt (ir211 78 32) = Int32.toInt (ir210 78 32) := congrArg Int32.toInt (honr211.1 78 32 (Or.inr (by decide)))
          have ek_40r211 : Int32.toInt (ir211 78 40) = Int32.toInt (ir210 78 40) := congrArg Int32.toInt (honr211.1 78 40 (Or.inr (by decide)))
          have ek_51r211 : Int32.toInt (ir211 78 51) = Int32.toInt (ir210 78 51) := congrArg Int32.toInt (honr211.1 78 51 (Or.inr (by decide)))
          have ek_19r211 : Int32.toInt (ir211 78 19) = Int32.toInt (ir210 78 19) := congrArg Int32.toInt (honr211.1 78 19 (Or.inr (by decide)))
          have hTKl := hTK.1
          exact xvret (pc := 187) C0 hr hH hS dX10_place_187 ⟨(RO.tr (RO.tr (RO.tr RO.rf h1 (by decide) (by decide)) honr210 (by decide) (by decide)) honr211 (by decide) (by decide)), hT, hPI, (fun _ => hP), (show Int32.toInt (ir211 78 40) ≤ _ ∧ Int32.toInt (ir211 78 47) ≤ _ from by omega)⟩
      · have c202 : ¬ _ := fun q => c202 (Int32.le_iff_toInt_le.mpr q)
        have ht2 : ¬ (iv 78 51).toInt = 1 := fun q => by
          have q1 := htzr201 q
          have q2 : ¬ Int32.toInt (Fv 99 (Int32.toNatClampNeg r201)) ≤ Int32.toInt (Fv 92 (Int32.toNatClampNeg x)) := (by assumption)
          rw [q1, show Int32.toNatClampNeg 0 = 0 from rfl, hP.2.2.2.2] at q2
          have : Int32.toInt 0 = 0 := rfl
          omega
        refine lv_aload_n (pc := 107) C0.1 C0.2.1 dX10_place_107 rfl (lv_at hl 0 rfl) ?_
        refine lv_dup (pc := 108) C0.1 C0.2.1 dX10_place_108 rfl ?_
        refine xget (pc := 109) C0 hH 78 51 clX10 ⟨Nat.le_of_ble_eq_true rfl, Nat.le_of_ble_eq_true rfl⟩ ⟨rfl, rfl⟩ (Nat.le_of_ble_eq_true rfl) fl_X10_293 (v := .int (iv 78 51)) rfl dX10_place_109 ?_
        refine lv_iconst (pc := 112) (v := 1) C0.1 C0.2.1 dX10_place_112 (by decide) ?_
        have : Int32.toInt 1 = 1 := rfl
        refine lv_isub (pc := 113) C0.1 C0.2.1 dX10_place_113 ?_
        refine lv_topi (fun x212 ex212 => ?_)
        have hx212 : Int32.toInt x212 = Int32.toInt (iv 78 51) - Int32.toInt 1 := by rw [ex212]; exact fb_subI (by omega) (by omega)
        refine xputI (pc := 114) C0 (Nat.le_of_ble_eq_true rfl) hH hS 78 51 clX10 ⟨Nat.le_of_ble_eq_true rfl, Nat.le_of_ble_eq_true rfl⟩ ⟨rfl, rfl⟩ ⟨Nat.le_of_ble_eq_true rfl, rfl, rfl⟩ fl_X10_293 (x := x212) ⟨rfl, rfl⟩ dX10_place_114 (fun _ locs hH hS _ => ?_)
        have hH : Hd D tA b 78 52 zz (up2 iv 78 51 x212) Fv Gv _ := hH
        refine lv_goto (pc := 117) (tgt := 89) C0.1 C0.2.1 dX10_place_117 (by decide) ?_
        exact ih89 (up2 iv 78 51 x212) Fv Gv _ _ _ (RO.i h1 (by decide)) (PMm.top hP (by omega)) (show Int32.toInt x212 ≤ _ from by omega) (show Int32.toInt x212 ≤ _ from by omega) hH hS (lv_sub hl [0, 1] rfl)
  refine lv_aload_n (pc := 0) C0.1 C0.2.1 dX10_place_0 rfl (lv_at hl 0 rfl) ?_
  refine lv_iload_n (pc := 1) C0.1 C0.2.1 dX10_place_1 rfl (lv_at hl 1 rfl) ?_
  refine lv_iconst (pc := 2) (v := 0) C0.1 C0.2.1 dX10_place_2 (by decide) ?_
  refine xcVI (pc := 3) 78 [.int x, .int 0] (m_pairOf l D tA b i F G x 0 hBR (by omega)) C0 hH hS clX10 rfl ⟨⟨Nat.le_of_ble_eq_true rfl, Nat.le_of_ble_eq_true rfl⟩, rfl, rfl⟩ cw_X10_310 rfl ⟨Nat.le_of_ble_eq_true rfl, Nat.le_of_ble_eq_true rfl⟩ hl.1 rfl (Nat.le_of_ble_eq_true rfl) dX10_place_3 ⟨Nat.le_of_ble_eq_true rfl, Nat.le_of_ble_eq_true rfl⟩ (fun r1 ir1 Fr1 Gr1 _ locs hp hH hS => ?_)
  obtain ⟨hu, hpr1⟩ := hp
  cases hu
  refine lv_istore_n (pc := 6) (lv' := [(2, .int r1), (0, .ref (b + 78)), (1, .int x)]) C0.1 C0.2.1 dX10_place_6 rfl hl (by decide) rfl (fun ls hl => ?_)
  refine lv_iload_n (pc := 7) C0.1 C0.2.1 dX10_place_7 rfl (lv_at hl 0 rfl) ?_
  refine lv_bipush (pc := 8) (v := (-9)) C0.1 C0.2.1 dX10_place_8 (by decide) ?_
  refine lv_icmp_eq (pc := 10) (tgt := 80) C0.1 C0.2.1 dX10_place_10 (by decide) (fun c2 => ?_) (fun c2 => ?_)
  · have : Int32.toInt (-9) = (-9) := rfl
    have c2 := congrArg Int32.toInt c2
    refine lv_aload_n (pc := 80) C0.1 C0.2.1 dX10_place_80 rfl (lv_at hl 1 rfl) ?_
    refine xget (pc := 81) C0 hH 78 25 clX10 ⟨Nat.le_of_ble_eq_true rfl, Nat.le_of_ble_eq_true rfl⟩ ⟨rfl, rfl⟩ (Nat.le_of_ble_eq_true rfl) fl_X10_57 (v := .ref (b + 93)) rfl dX10_place_81 ?_
    refine lv_iload_n (pc := 84) C0.1 C0.2.1 dX10_place_84 rfl (lv_at hl 2 rfl) ?_
    refine xzald (pc := 85) (N := 600) C0 hH 93 ⟨Nat.le_of_ble_eq_true rfl, Nat.le_of_ble_eq_true rfl⟩ ⟨rfl, rfl⟩ (vI (by omega) (by omega)) dX10_place_85 ?_
    refine lv_if_eq (pc := 86) (tgt := 182) C0.1 C0.2.1 dX10_place_86 (by decide) (fun c3 => ?_) (fun c3 => ?_)
    · have : Int32.toInt 0 = 0 := rfl
      have c3 := congrArg Int32.toInt c3
      have hk0 : 0 < k := hd.resolve_right (fun q => by have q1 : Int32.toInt (F 93 (Int32.toNatClampNeg x)) = Int32.toInt 0 := (by assumption); rw [q] at q1; exact absurd q1 (by decide))
      refine lv_aload_n (pc := 182) C0.1 C0.2.1 dX10_place_182 rfl (lv_at hl 1 rfl) ?_
      refine lv_iload_n (pc := 183) C0.1 C0.2.1 dX10_place_183 rfl (lv_at hl 2 rfl) ?_
      refine xcVV (pc := 184) 78 [.int x] (m_goOn l D tA b i F G x k hT hP (show 1 < Int32.toInt (i 78 51) ∨ 0 < k from by omega) (by omega) (show Int32.toInt (i 78 47) < 1802 from by omega)) C0 hH hS clX10 rfl ⟨⟨Nat.le_of_ble_eq_true rfl, Nat.le_of_ble_eq_true rfl⟩, rfl, rfl⟩ cw_X10_320 rfl ⟨Nat.le_of_ble_eq_true rfl, Nat.le_of_ble_eq_true rfl⟩ hl.1 rfl (Nat.le_of_ble_eq_true rfl) dX10_place_184 ⟨Nat.le_of_ble_eq_true rfl, Nat.le_of_ble_eq_true rfl⟩ (fun ir4 Fr4 Gr4 _ locs hp hH hS => ?_)
      obtain ⟨honr4, hT, hptr4⟩ := hp
      have hT : TMm ir4 Fr4 := hT
      have hptr4 : (ir4 78 47).toInt = Int32.toInt (i 78 47) + 1 := hptr4
      have hTL := TMm.lin hT
      have hP : PMm k ir4 Fr4 := PMm.ro (i := i) (F := F) hP honr4 (by decide) (by decide)
      have hTK : TKm ir4 Fr4 := TKm.ro (i := i) (F := F) hTK honr4 (by decide)
      have hPI : PLI ir4 := PLI.ro (i := i) (F := F) hPI honr4 (by decide)
      have hBR : BR ir4 := BR.ro (i := i) (F := F) hBR honr4 (by decide)
      have ek_32r4 : Int32.toInt (ir4 78 32) = Int32.toInt (i 78 32) := congrArg Int32.toInt (honr4.1 78 32 (Or.inr (by decide)))
      have ek_40r4 : Int32.toInt (ir4 78 40) = Int32.toInt (i 78 40) := congrArg Int32.toInt (honr4.1 78 40 (Or.inr (by decide)))
      have ek_51r4 : Int32.toInt (ir4 78 51) = Int32.toInt (i 78 51) := congrArg Int32.toInt (honr4.1 78 51 (Or.inr (by decide)))
      have ek_19r4 : Int32.toInt (ir4 78 19) = Int32.toInt (i 78 19) := congrArg Int32.toInt (honr4.1 78 19 (Or.inr (by decide)))
      have hTKl := hTK.1
      exact xvret (pc := 187) C0 hr hH hS dX10_place_187 ⟨(RO.tr RO.rf honr4 (by decide) (by decide)), hT, hPI, (fun _ => PMm.one hP (by omega)), (show Int32.toInt (ir4 78 40) ≤ _ ∧ Int32.toInt (ir4 78 47) ≤ _ from by omega)⟩
    · have : Int32.toInt 0 = 0 := rfl
      have c3 : ¬ _ := fun q => c3 (Int32.toInt_inj.mp q)
      exact L89 1202 i F G _ _ _ RO.rf hP (by omega) (by omega) hH hS (lv_sub hl [1, 2] rfl)
  · have : Int32.toInt (-9) = (-9) := rfl
    have c2 : ¬ _ := fun q => c2 (Int32.toInt_inj.mp q)
    refine lv_aload_n (pc := 13) C0.1 C0.2.1 dX10_place_13 rfl (lv_at hl 1 rfl) ?_
    refine xcVI (pc := 14) 78 [] (m_topmost l D tA b i F G k hT hP) C0 hH hS clX10 rfl ⟨⟨Nat.le_of_ble_eq_true rfl, Nat.le_of_ble_eq_true rfl⟩, rfl, rfl⟩ cw_X10_296 rfl ⟨Nat.le_of_ble_eq_true rfl, Nat.le_of_ble_eq_true rfl⟩ hl.1 rfl (Nat.le_of_ble_eq_true rfl) dX10_place_14 ⟨Nat.le_of_ble_eq_true rfl, Nat.le_of_ble_eq_true rfl⟩ (fun r5 ir5 Fr5 Gr5 _ locs hp hH hS => ?_)
    obtain ⟨hu, htpr5, htqr5, htzr5⟩ := hp
    cases hu
    have hBtr5 := TMm.bt hT (x := r5) (show 0 ≤ Int32.toInt r5 ∧ Int32.toInt r5 < Int32.toInt (i 78 32) from htpr5)
    refine lv_istore_n (pc := 17) (lv' := [(3, .int r5), (2, .int r1), (0, .ref (b + 78)), (1, .int x)]) C0.1 C0.2.1 dX10_place_17 rfl hl (by decide) rfl (fun ls hl => ?_)
    refine lv_aload_n (pc := 18) C0.1 C0.2.1 dX10_place_18 rfl (lv_at hl 2 rfl) ?_
    refine xget (pc := 19) C0 hH 78 33 clX10 ⟨Nat.le_of_ble_eq_true rfl, Nat.le_of_ble_eq_true rfl⟩ ⟨rfl, rfl⟩ (Nat.le_of_ble_eq_true rfl) fl_X10_73 (v := .ref (b + 98)) rfl dX10_place_19 ?_
    refine lv_iload_n (pc := 22) C0.1 C0.2.1 dX10_place_22 rfl (lv_at hl 0 rfl) ?_
    refine xiald (pc := 23) (N := 1202) C0 hH 98 ⟨Nat.le_of_ble_eq_true rfl, Nat.le_of_ble_eq_true rfl⟩ ⟨rfl, rfl⟩ (vI (by omega) (by omega)) dX10_place_23 ?_
    refine lv_iconst (pc := 24) (v := 4) C0.1 C0.2.1 dX10_place_24 (by decide) ?_
    refine lv_icmp_ne (pc := 25) (tgt := 50) C0.1 C0.2.1 dX10_place_25 (by decide) (fun c6 => ?_) (fun c6 => ?_)
    · have : Int32.toInt 4 = 4 := rfl
      have c6 : ¬ _ := fun q => c6 (Int32.toInt_inj.mp q)
      refine lv_aload_n (pc := 50) C0.1 C0.2.1 dX10_place_50 rfl (lv_at hl 2 rfl) ?_
      refine lv_iconst (pc := 51) (v := 5) C0.1 C0.2.1 dX10_place_51 (by decide) ?_
      refine lv_aload_n (pc := 52) C0.1 C0.2.1 dX10_place_52 rfl (lv_at hl 2 rfl) ?_
      refine xget (pc := 53) C0 hH 78 21 clX10 ⟨Nat.le_of_ble_eq_true rfl, Nat.le_of_ble_eq_true rfl⟩ ⟨rfl, rfl⟩ (Nat.le_of_ble_eq_true rfl) fl_X10_45 (v := .ref (b + 89)) rfl dX10_place_53 ?_
      refine lv_iload_n (pc := 56) C0.1 C0.2.1 dX10_place_56 rfl (lv_at hl 3 rfl) ?_
      refine xiald (pc := 57) (N := 600) C0 hH 89 ⟨Nat.le_of_ble_eq_true rfl, Nat.le_of_ble_eq_true rfl⟩ ⟨rfl, rfl⟩ (vI (by omega) (by omega)) dX10_place_57 ?_
      refine xcVI (pc := 58) 78 [.int 5, .int (F 89 (Int32.toNatClampNeg x))] (m_fail l D tA b i F G 5 (F 89 (Int32.toNatClampNeg x))) C0 hH hS clX10 rfl ⟨⟨Nat.le_of_ble_eq_true rfl, Nat.le_of_ble_eq_true rfl⟩, rfl, rfl⟩ cw_X10_254 rfl ⟨Nat.le_of_ble_eq_true rfl, Nat.le_of_ble_eq_true rfl⟩ hl.1 rfl (Nat.le_of_ble_eq_true rfl) dX10_place_58 ⟨Nat.le_of_ble_eq_true rfl, Nat.le_of_ble_eq_true rfl⟩ (fun r7 ir7 Fr7 Gr7 _ locs hp hH hS => ?_)
      obtain ⟨hu, rfl⟩ := hp
      cases hu
      have hH : Hd D tA b 78 52 zz (up2 (up2 i 78 30 5) 78 31 (F 89 (Int32.toNatClampNeg x))) F G _ := hH
      refine lv_istore (pc := 61) (lv' := [(4, .int 0), (3, .int r5), (2, .int r1), (0, .ref (b + 78)), (1, .int x)]) C0.1 C0.2.1 dX10_place_61 hl (by decide) rfl (fun ls hl => ?_)
      exact xvret (pc := 63) C0 hr hH hS dX10_place_63 ⟨(RO.i (RO.i RO.rf (by decide)) (by decide)), hT, (Or.inr (show 0 ≤ Int32.toInt (F 89 (Int32.toNatClampNeg x)) ∧ Int32.toInt (F 89 (Int32.toNatClampNeg x)) ≤ 600 from by have := hTK.2.1 (Int32.toNatClampNeg x); omega)), (fun q => absurd q (show ¬ Int32.toInt 5 = 0 from by decide)), (show Int32.toInt (i 78 40) ≤ _ ∧ Int32.toInt (i 78 47) ≤ _ from by omega)⟩
    · have : Int32.toInt 4 = 4 := rfl
      have c6 := congrArg Int32.toInt c6
      have hk4 : Int32.toInt (F 98 (Int32.toNatClampNeg r5)) = Int32.toInt 4 := (by assumption)
      have hr0 : ¬ r5 = 0 := fun q => by rw [q, show Int32.toNatClampNeg 0 = 0 from rfl, hP.2.2.2.1] at hk4; exact absurd hk4 (by decide)
      have hr0I : ¬ Int32.toInt r5 = 0 := fun q => hr0 (Int32.toInt_inj.mp q)
      have hpt := TMm.pt hT (x := r5) (by omega)
      have htp2 : ¬ (i 78 51).toInt = 1 := fun q => hr0 (htzr5 q)
      refine lv_aload_n (pc := 28) C0.1 C0.2.1 dX10_place_28 rfl (lv_at hl 2 rfl) ?_
      refine xget (pc := 29) C0 hH 78 26 clX10 ⟨Nat.le_of_ble_eq_true rfl, Nat.le_of_ble_eq_true rfl⟩ ⟨rfl, rfl⟩ (Nat.le_of_ble_eq_true rfl) fl_X10_61 (v := .ref (b + 94)) rfl dX10_place_29 ?_
      refine lv_aload_n (pc := 32) C0.1 C0.2.1 dX10_place_32 rfl (lv_at hl 2 rfl) ?_
      refine xget (pc := 33) C0 hH 78 36 clX10 ⟨Nat.le_of_ble_eq_true rfl, Nat.le_of_ble_eq_true rfl⟩ ⟨rfl, rfl⟩ (Nat.le_of_ble_eq_true rfl) fl_X10_82 (v := .ref (b + 101)) rfl dX10_place_33 ?_
      refine lv_iload_n (pc := 36) C0.1 C0.2.1 dX10_place_36 rfl (lv_at hl 0 rfl) ?_
      refine xiald (pc := 37) (N := 1202) C0 hH 101 ⟨Nat.le_of_ble_eq_true rfl, Nat.le_of_ble_eq_true rfl⟩ ⟨rfl, rfl⟩ (vI (by omega) (by omega)) dX10_place_37 ?_
      refine xlald (pc := 38) (N := 600) C0 hH 94 ⟨Nat.le_of_ble_eq_true rfl, Nat.le_of_ble_eq_true rfl⟩ ⟨rfl, rfl⟩ (vI hpt.2.1 hpt.2.2) dX10_place_38 ?_
      refine lv_aload_n (pc := 39) C0.1 C0.2.1 dX10_place_39 rfl (lv_at hl 2 rfl) ?_
      refine xget (pc := 40) C0 hH 78 4 clX10 ⟨Nat.le_of_ble_eq_true rfl, Nat.le_of_ble_eq_true rfl⟩ ⟨rfl, rfl⟩ (Nat.le_of_ble_eq_true rfl) fl_X10_17 (v := .ref (b + 81)) rfl dX10_place_40 ?_
      refine lv_iload_n (pc := 43) C0.1 C0.2.1 dX10_place_43 rfl (lv_at hl 1 rfl) ?_
      refine xiald (pc := 44) (N := 4) C0 hH 81 ⟨Nat.le_of_ble_eq_true rfl, Nat.le_of_ble_eq_true rfl⟩ ⟨rfl, rfl⟩ (vI (by omega) (by omega)) dX10_place_44 ?_
      refine lv_i2l (pc := 45) (v := (F 81 (Int32.toNatClampNeg r1)).toInt64) C0.1 C0.2.1 dX10_place_45 rfl ?_
      refine W.lcmp (pc := 46) C0.1 C0.2.1 dX10_place_46 ?_
      refine lv_if_eq (pc := 47) (tgt := 64) C0.1 C0.2.1 dX10_place_47 (by decide) (fun c8 => ?_) (fun c8 => ?_)
      · have c8 := (lg_cmp_eq _ _).mp c8
        refine lv_aload_n (pc := 64) C0.1 C0.2.1 dX10_place_64 rfl (lv_at hl 2 rfl) ?_
        refine lv_dup (pc := 65) C0.1 C0.2.1 dX10_place_65 rfl ?_
        refine xget (pc := 66) C0 hH 78 51 clX10 ⟨Nat.le_of_ble_eq_true rfl, Nat.le_of_ble_eq_true rfl⟩ ⟨rfl, rfl⟩ (Nat.le_of_ble_eq_true rfl) fl_X10_293 (v := .int (i 78 51)) rfl dX10_place_66 ?_
        refine lv_iconst (pc := 69) (v := 1) C0.1 C0.2.1 dX10_place_69 (by decide) ?_
        have : Int32.toInt 1 = 1 := rfl
        refine lv_isub (pc := 70) C0.1 C0.2.1 dX10_place_70 ?_
        refine lv_topi (fun x9 ex9 => ?_)
        have hx9 : Int32.toInt x9 = Int32.toInt (i 78 51) - Int32.toInt 1 := by rw [ex9]; exact fb_subI (by omega) (by omega)
        refine xputI (pc := 71) C0 (Nat.le_of_ble_eq_true rfl) hH hS 78 51 clX10 ⟨Nat.le_of_ble_eq_true rfl, Nat.le_of_ble_eq_true rfl⟩ ⟨rfl, rfl⟩ ⟨Nat.le_of_ble_eq_true rfl, rfl, rfl⟩ fl_X10_293 (x := x9) ⟨rfl, rfl⟩ dX10_place_71 (fun _ locs hH hS _ => ?_)
        have hH : Hd D tA b 78 52 zz (up2 i 78 51 x9) F G _ := hH
        have hP : PMm k (up2 i 78 51 x9) F := PMm.top hP (by omega)
        refine lv_aload_n (pc := 74) C0.1 C0.2.1 dX10_place_74 rfl (lv_at hl 2 rfl) ?_
        refine lv_iload_n (pc := 75) C0.1 C0.2.1 dX10_place_75 rfl (lv_at hl 3 rfl) ?_
        refine xcVV (pc := 76) 78 [.int x] (m_goOn l D tA b (up2 i 78 51 x9) F G x k hT hP (show 1 < Int32.toInt x9 ∨ 0 < k from by omega) (by omega) (show Int32.toInt (i 78 47) < 1802 from by omega)) C0 hH hS clX10 rfl ⟨⟨Nat.le_of_ble_eq_true rfl, Nat.le_of_ble_eq_true rfl⟩, rfl, rfl⟩ cw_X10_320 rfl ⟨Nat.le_of_ble_eq_true rfl, Nat.le_of_ble_eq_true rfl⟩ hl.1 rfl (Nat.le_of_ble_eq_true rfl) dX10_place_76 ⟨Nat.le_of_ble_eq_true rfl, Nat.le_of_ble_eq_true rfl⟩ (fun ir10 Fr10 Gr10 _ locs hp hH hS => ?_)
        obtain ⟨honr10, hT, hptr10⟩ := hp
        have hT : TMm ir10 Fr10 := hT
        have hptr10 : (ir10 78 47).toInt = Int32.toInt (i 78 47) + 1 := hptr10
        have hTL := TMm.lin hT
        have hP : PMm k ir10 Fr10 := PMm.ro (i := (up2 i 78 51 x9)) (F := F) hP honr10 (by decide) (by decide)
        have hTK : TKm ir10 Fr10 := TKm.ro (i := (up2 i 78 51 x9)) (F := F) hTK honr10 (by decide)
        have hPI : PLI ir10 := PLI.ro (i := (up2 i 78 51 x9)) (F := F) hPI honr10 (by decide)
        have hBR : BR ir10 := BR.ro (i := (up2 i 78 51 x9)) (F := F) hBR honr10 (by decide)
        have ek_32r10 : Int32.toInt (ir10 78 32) = Int32.toInt (i 78 32) := congrArg Int32.toInt (honr10.1 78 32 (Or.inr (by decide)))
        have ek_40r10 : Int32.toInt (ir10 78 40) = Int32.toInt (i 78 40) := congrArg Int32.toInt (honr10.1 78 40 (Or.inr (by decide)))
        have ek_51r10 : Int32.toInt (ir10 78 51) = Int32.toInt x9 := congrArg Int32.toInt (honr10.1 78 51 (Or.inr (by decide)))
        have ek_19r10 : Int32.toInt (ir10 78 19) = Int32.toInt (i 78 19) := congrArg Int32.toInt (honr10.1 78 19 (Or.inr (by decide)))
        have hTKl := hTK.1
        exact xvret (pc := 79) C0 hr hH hS dX10_place_79 ⟨(RO.tr (RO.i RO.rf (by decide)) honr10 (by decide) (by decide)), hT, hPI, (fun _ => PMm.one hP (by omega)), (show Int32.toInt (ir10 78 40) ≤ _ ∧ Int32.toInt (ir10 78 47) ≤ _ from by omega)⟩
      · have c8 := fun q => c8 ((lg_cmp_eq _ _).mpr q)
        refine lv_aload_n (pc := 50) C0.1 C0.2.1 dX10_place_50 rfl (lv_at hl 2 rfl) ?_
        refine lv_iconst (pc := 51) (v := 5) C0.1 C0.2.1 dX10_place_51 (by decide) ?_
        refine lv_aload_n (pc := 52) C0.1 C0.2.1 dX10_place_52 rfl (lv_at hl 2 rfl) ?_
        refine xget (pc := 53) C0 hH 78 21 clX10 ⟨Nat.le_of_ble_eq_true rfl, Nat.le_of_ble_eq_true rfl⟩ ⟨rfl, rfl⟩ (Nat.le_of_ble_eq_true rfl) fl_X10_45 (v := .ref (b + 89)) rfl dX10_place_53 ?_
        refine lv_iload_n (pc := 56) C0.1 C0.2.1 dX10_place_56 rfl (lv_at hl 3 rfl) ?_
        refine xiald (pc := 57) (N := 600) C0 hH 89 ⟨Nat.le_of_ble_eq_true rfl, Nat.le_of_ble_eq_true rfl⟩ ⟨rfl, rfl⟩ (vI (by omega) (by omega)) dX10_place_57 ?_
        refine xcVI (pc := 58) 78 [.int 5, .int (F 89 (Int32.toNatClampNeg x))] (m_fail l D tA b i F G 5 (F 89 (Int32.toNatClampNeg x))) C0 hH hS clX10 rfl ⟨⟨Nat.le_of_ble_eq_true rfl, Nat.le_of_ble_eq_true rfl⟩, rfl, rfl⟩ cw_X10_254 rfl ⟨Nat.le_of_ble_eq_true rfl, Nat.le_of_ble_eq_true rfl⟩ hl.1 rfl (Nat.le_of_ble_eq_true rfl) dX10_place_58 ⟨Nat.le_of_ble_eq_true rfl, Nat.le_of_ble_eq_true rfl⟩ (fun r11 ir11 Fr11 Gr11 _ locs hp hH hS => ?_)
        obtain ⟨hu, rfl⟩ := hp
        cases hu
        have hH : Hd D tA b 78 52 zz (up2 (up2 i 78 30 5) 78 31 (F 89 (Int32.toNatClampNeg x))) F G _ := hH
        refine lv_istore (pc := 61) (lv' := [(4, .int 0), (3, .int r5), (2, .int r1), (0, .ref (b + 78)), (1, .int x)]) C0.1 C0.2.1 dX10_place_61 hl (by decide) rfl (fun ls hl => ?_)
        exact xvret (pc := 63) C0 hr hH hS dX10_place_63 ⟨(RO.i (RO.i RO.rf (by decide)) (by decide)), hT, (Or.inr (show 0 ≤ Int32.toInt (F 89 (Int32.toNatClampNeg x)) ∧ Int32.toInt (F 89 (Int32.toNatClampNeg x)) ≤ 600 from by have := hTK.2.1 (Int32.toNatClampNeg x); omega)), (fun q => absurd q (show ¬ Int32.toInt 5 = 0 from by decide)), (show Int32.toInt (i 78 40) ≤ _ ∧ Int32.toInt (i 78 47) ≤ _ from by omega)⟩
