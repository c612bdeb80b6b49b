section XSTR
variable {p : Program} {l : Launch} {e : Env} {R : Room} {s : State} {m : MethodId} {args : Array Value} {below : List Frame} {meth : Method} {c : Code} {H : Heap} {locs : List Loc} {cells slots : Nat} {Q : State → Prop}
variable {cc : ByteArray} {nL : Nat} {own : String} {D : va_G} {tA : Nat → ClassId} {b o n n0 : Nat} {A : Nat → Prop} {z : Nat → Nat → Bool} {i F : Nat → Nat → Int32} {G : Nat → Nat → Int64} {pc : Nat} {ls : Array Slot} {rest : List Value} {H0 : Heap}
variable {y : MethodName} {bytes : ByteArray} {maxL fr lo idx : Nat} {ret : Option FieldType} {As st : List Value}
theorem cxS (C0 : Cx p s m args meth c cc nL own D tA b o n0 A) (hS : va_S A s.heap H locs) : va_S (Sb b) s.heap H locs := ⟨hS.1, fun q h1 h2 => hS.2.1 q h1 (fun w => h2 (C0.2.2.2.2.2.2.2.2 q w)), fun q hq => C0.2.2.2.2.2.2.2.2 _ (hS.2.2 q hq)⟩
theorem cxSK (C0 : Cx p s m args meth c cc nL own D tA b o n0 A) : SK tA b s s.heap := C0.2.2.2.2.2.1.2.2
/-- ldc_w of the text of the marks -/
theorem xldcw {index q : Nat} {tx : String} (C0 : Cx p s m args meth c cc nL own D tA b o n0 A) (hZ : vk_R own index tx q s) (hdg : decode cc pc = .ok (.ldc_w index, 3)) (k : W p l e R s m args below meth c H locs cells slots Q (F0 m (pc + 3) ls (.ref q :: rest))) : W p l e R s m args below meth c H locs cells slots Q (F0 m pc ls rest) := by
  obtain ⟨hexec, hb, hml, hown, -⟩ := C0
  intro T hT X
  obtain ⟨t, a1, b1⟩ := k T hT X
  refine ⟨t, ?_, b1⟩
  obtain ⟨kc, cf, j, a', hk, hcf, hcp, -, hr, hev'⟩ := Cond.stringRef_spec hown hZ.1
  cases hZ.2.symm.trans hev'
  obtain ⟨k', hk', he⟩ := X.warmed.alike.2.2 _ _ hk
  have hr' : k'.resolved[index]? = some (some (.string q)) := by
    rcases X.warmed.entry hk hk' index with h | ⟨h, -⟩
    · rw [h]; exact hr
    · rw [hr] at h; cases h
  have hdg' : decode c.code pc = .ok (.ldc_w index, 3) := by rw [hb]; exact hdg
  jvm_step X.here [hexec, hdg', ldc_w.wp_string (e := e) (s := T) (f := F0 m pc ls rest) X.here.top hk' (by rw [he]; exact hcf) hcp hr']
  exact a1
/-- a call on the text of the marks -/
theorem xcVS {post : Int32 → XS → Prop} {na : Nat} (As : List Value) (hM : xMI l y bytes maxL ret fr lo D tA b o n i F G (.ref (tA 10) :: As) post) (C0 : Cx p s m args meth c cc nL own D tA b o n A) (hH : Hd D tA b o n zz i F G H) (hS : va_S A s.heap H locs) (hC : y.cls = "java/lang/String") (cw : CwV own idx y bytes maxL ret na) (hna : As.length = na) (hR : fr + 1 ≤ R.frames ∧ 8 + (maxL + 11) + lo ≤ R.locals) (hls : ls.size = nL) (hst : st = As.reverse ++ .ref (tA 10) :: rest) (hro : (rest.map fun v => v.category).sum ≤ 8) (hd : decode cc pc = .ok (.invokevirtual idx, 3)) (hf : cells ≤ R.cells ∧ slots ≤ R.slots)
    (kk : ∀ (r : Int32) (i F : Nat → Nat → Int32) (G : Nat → Nat → Int64) (H : Heap) (locs : List Loc), post r (i, F, G) → Hd D tA b o n zz i F G H → va_S A s.heap H locs → W p l e R s m args below meth c H locs cells slots Q (F0 m (pc + 3) ls (.int r :: rest))) : W p l e R s m args below meth c H locs cells slots Q (F0 m pc ls st) := by
  refine va_calli (A1 := xA b o n) (xrunV C0 (by rw [hC]; exact vk_recv (adK := fun _ => tA 10) (adV := fun _ => tA 11) (i := 0) (cxSK C0).1 (by decide : 0 < 1) (cxS C0 hS)) hM xfb (fun U hU hW => ⟨by rw [hU]; exact hH, cxtk C0 hS hU hW⟩) cw ⟨rfl, rfl⟩ hna hR hls hst hro hd hf) hS (fun q _ h => by obtain ⟨h1, h2⟩ := h; have := C0.2.2.2.2.2.2.1 (q - b) ⟨by omega, by omega⟩; rwa [show b + (q - b) = q by omega] at this) (fun q h => by obtain ⟨h1, h2⟩ := h; have := C0.2.2.2.2.2.2.1 (q - b) ⟨by omega, by omega⟩; rwa [show b + (q - b) = q by omega] at this) (fun r u t H1 l1 ht _ hp hB _ _ hS1 => ?_)
  obtain ⟨i1, F1, G1⟩ := u
  refine kk r i1 F1 G1 H1 l1 hp ?_ hS1
  rw [← ht]; exact hB
theorem xcopyb {N0 N1 : Nat} (C0 : Cx p s m args meth c cc nL own D tA b o n0 A) (hn : n ≤ n0) (hH : Hd D tA b o n z i F G H) (hS : va_S A H0 H locs) (k0 k1 : Nat) (hk0 : o ≤ k0 ∧ k0 < o + n) (hk : o ≤ k1 ∧ k1 < o + n) (hc0 : ckd k0 = 51 ∧ cnn k0 = N0) (hc : ckd k1 = 51 ∧ cnn k1 = N1) (w : Cond.methodLink own idx arraycopyName ∈ WALL ∧ Cond.native arraycopyName ∈ WALL ∧ Cond.static arraycopyName ∈ WALL ∧ Cond.initialized "java/lang/System" ∈ WALL) {sp dp q : Int32} (hh : (¬ sp < 0 ∧ ¬ dp < 0 ∧ ¬ q < 0) ∧ sp.toNatClampNeg + q.toNatClampNeg ≤ N0 ∧ dp.toNatClampNeg + q.toNatClampNeg ≤ N1 ∧ ∀ j, j < q.toNatClampNeg → fits .byte (.int (F k0 (sp.toNatClampNeg + j))) = true) (hfr : 1 ≤ R.frames) (hlo : (rest.map fun v => v.category).sum + (nativeFrameWords "java/lang/System" "arraycopy" 5 + 11) ≤ R.locals) (hls : ls.size = nL) (hd : decode cc pc = .ok (.invokestatic idx, 3))
    (kk : ∀ (H1 : Heap) (locs : List Loc), Hd D tA b o n z i (va_up F k1 (va_cpy (F k0) (F k1) sp.toNatClampNeg dp.toNatClampNeg q.toNatClampNeg)) G H1 → va_S A H0 H1 locs → W p l e R s m args below meth c H1 locs cells slots Q (F0 m (pc + 3) ls rest)) : W p l e R s m args below meth c H locs cells slots Q (F0 m pc ls (.int q :: .int dp :: .ref (b + k1) :: .int sp :: .ref (b + k0) :: rest)) := by
  have hD : va_D A (wl b tA z i F G o n) := wl_D (fun a ha => C0.2.2.2.2.2.2.1 a (by omega))
  have hse := wl_setF (b := b) (tA := tA) (z := z) (i := i) (F := F) (G := G) (o := o) (n := n) (k := k1) (g := va_cpy (F k0) (F k1) sp.toNatClampNeg dp.toNatClampNeg q.toNatClampNeg) hk.1 (by omega) (by omega)
  rw [hc.1, hc.2] at hse
  obtain ⟨hx, hb, hml, hown, hts, hT, hA, hlk⟩ := C0
  refine va_copyi hx hb (hml.trans hls.symm) hown (hts _ w.1) (hts _ w.2.1) (hts _ w.2.2.1) (hts _ w.2.2.2) hT.1 hH hD hS (k0 - o) (k1 - o) 1 1 (he_a (t := 51) hk0 hc0 (by omega)) (he_a (t := 51) hk hc (by omega)) rfl rfl rfl hh.1.1 hh.1.2.1 hh.1.2.2 hh.2.1 hh.2.2.1 hh.2.2.2 hfr hlo hd (fun H1 l1 q1 q2 q3 => ?_)
  rw [hse] at q1
  exact kk H1 l1 q1 q3
end XSTR
def ix (n : Nat) : Int32 := if n = 33 then 0 else if n = 34 then 1 else if n = 36 then 2 else if n = 37 then 3 else if n = 38 then 4 else if n = 40 then 5 else if n = 41 then 6 else if n = 42 then 7 else if n = 43 then 8 else if n = 44 then 9 else if n = 45 then 10 else if n = 46 then 11 else if n = 47 then 12 else if n = 58 then 13 else if n = 59 then 14 else if n = 60 then 15 else if n = 61 then 16 else if n = 62 then 17 else if n = 63 then 18 else if n = 64 then 19 else if n = 91 then 20 else if n = 93 then 21 else if n = 94 then 22 else if n = 95 then 23 else if n = 124 then 24 else -1
theorem ix_in {n : Nat} (hn : n < 256) : (ix n < 0 → ¬ n ∈ mkN) ∧ (¬ ix n < 0 → n ∈ mkN) := by
  have : ∀ n, n < 256 → (ix n < 0 → ¬ n ∈ mkN) ∧ (¬ ix n < 0 → n ∈ mkN) := by decide +kernel
  exact this n hn
theorem by_eq : ∀ n, n < 256 → ∀ j, j < 25 → ((mkBy.getD j 0 = (nI n).toInt8.toInt32 → n = mkN.getD j 0) ∧ (¬ mkBy.getD j 0 = (nI n).toInt8.toInt32 → ¬ n = mkN.getD j 0)) := by decide +kernel
theorem in_0 {v x y : Int64} (h : inI v x y = 0) : ¬ (x ≤ v ∧ v ≤ y) := fun q => by unfold inI at h; rw [if_pos q] at h; exact absurd h (by decide)
theorem in_1 {v x y : Int64} (h : ¬ inI v x y = 0) : x ≤ v ∧ v ≤ y := by
  by_cases q : x ≤ v ∧ v ≤ y
  · exact q
  · unfold inI at h; rw [if_neg q] at h; exact absurd rfl h
theorem mkb_01 (k : Nat) : mkb k = 0 ∨ mkb k = 1 := by unfold mkb; split <;> simp
theorem mkb_r0 {k : Nat} (h : mkb k = 0) : (0 : Int32) = mkb k := h.symm
theorem mkb_r1 {k : Nat} (h : ¬ mkb k = 0) : (1 : Int32) = mkb k := ((mkb_01 k).resolve_left h).symm
theorem bnd {t : Int64} (h1 : ¬ t ≤ 0) (h2 : ¬ 256 ≤ t) : 1 ≤ t ∧ t ≤ 255 := by
  have a := Int64.not_le.mp h1
  have b := Int64.not_le.mp h2
  rw [Int64.lt_iff_toInt_lt] at a b
  rw [Int64.le_iff_toInt_le, Int64.le_iff_toInt_le]
  have k0 : (0 : Int64).toInt = 0 := rfl
  have k1 : (1 : Int64).toInt = 1 := rfl
  have k2 : (255 : Int64).toInt = 255 := rfl
  have k3 : (256 : Int64).toInt = 256 := rfl
  omega
theorem nb1 {t : Int64} (h : t ≤ 0) : ¬ (1 ≤ t ∧ t ≤ 255) := fun q => by
  have a := Int64.le_iff_toInt_le.mp q.1
  have b := Int64.le_iff_toInt_le.mp h
  have k0 : (0 : Int64).toInt = 0 := rfl
  have k1 : (1 : Int64).toInt = 1 := rfl
  omega
theorem nb2 {t : Int64} (h : 256 ≤ t) : ¬ (1 ≤ t ∧ t ≤ 255) := fun q => by
  have a := Int64.le_iff_toInt_le.mp q.2
  have b := Int64.le_iff_toInt_le.mp h
  have k2 : (255 : Int64).toInt = 255 := rfl
  have k3 : (256 : Int64).toInt = 256 := rfl
  omega
theorem mkb_i0 {k : Nat} (hk : k < 256) (h : ix k < 0) : (0 : Int32) = mkb k := by unfold mkb; rw [if_neg ((ix_in hk).1 h)]
theorem mkb_i1 {k : Nat} (hk : k < 256) (h : ¬ ix k < 0) : (1 : Int32) = mkb k := by unfold mkb; rw [if_pos ((ix_in hk).2 h)]
theorem in_emp (v : Int64) : inI v 0 (-1) = 0 := by
  unfold inI
  rw [if_neg]
  intro q
  have a := Int64.le_iff_toInt_le.mp q.1
  have b := Int64.le_iff_toInt_le.mp q.2
  have k0 : (0 : Int64).toInt = 0 := rfl
  have k1 : (-1 : Int64).toInt = -1 := rfl
  omega
theorem in_1i {x : Int32} {a b : Int64} (h : ¬ inI x.toInt64 a b = 0) : a.toInt ≤ x.toInt ∧ x.toInt ≤ b.toInt := by
  have q := in_1 h
  have e : x.toInt64.toInt = x.toInt := Int32.toInt_toInt64 x
  rw [← e]
  exact ⟨Int64.le_iff_toInt_le.mp q.1, Int64.le_iff_toInt_le.mp q.2⟩
theorem in_0i {x : Int32} {a b : Int64} (h : inI x.toInt64 a b = 0) : ¬ (a.toInt ≤ x.toInt ∧ x.toInt ≤ b.toInt) := fun q => by
  have e : x.toInt64.toInt = x.toInt := Int32.toInt_toInt64 x
  rw [← e] at q
  exact in_0 h ⟨Int64.le_iff_toInt_le.mpr q.1, Int64.le_iff_toInt_le.mpr q.2⟩
theorem stp_e (x : Int32) : (x = 1 ∨ x = 2 ∨ x = 3 ∨ x = 5) ↔ (x.toInt = 1 ∨ x.toInt = 2 ∨ x.toInt = 3 ∨ x.toInt = 5) := by
  have e1 : (1 : Int32).toInt = 1 := rfl
  have e2 : (2 : Int32).toInt = 2 := rfl
  have e3 : (3 : Int32).toInt = 3 := rfl
  have e5 : (5 : Int32).toInt = 5 := rfl
  rw [← Int32.toInt_inj, ← Int32.toInt_inj, ← Int32.toInt_inj, ← Int32.toInt_inj, e1, e2, e3, e5]
theorem stp_0 {x : Int32} (h : stp x = 0) : ¬ (x.toInt = 1 ∨ x.toInt = 2 ∨ x.toInt = 3 ∨ x.toInt = 5) := fun q => by
  unfold stp at h
  rw [if_pos ((stp_e x).mpr q)] at h
  exact absurd h (by decide)
theorem stp_1 {x : Int32} (h : ¬ stp x = 0) : x.toInt = 1 ∨ x.toInt = 2 ∨ x.toInt = 3 ∨ x.toInt = 5 := by
  by_cases q : x = 1 ∨ x = 2 ∨ x = 3 ∨ x = 5
  · exact (stp_e x).mp q
  · unfold stp at h; rw [if_neg q] at h; exact absurd rfl h
def tbS (x : Int32) : Int32 := if 0 ≤ x.toInt ∧ x.toInt ≤ 8 then 0 else -2
def ctS (x : Int32) : Int32 := if x.toInt = 0 then 0 else -2
def ftS (x : Int32) : Int32 := if x.toInt = 0 then 0 else if 1 ≤ x.toInt ∧ x.toInt ≤ 3 then -9 else -2
def coS (x : Int32) : Int32 := if 0 ≤ x.toInt ∧ x.toInt ≤ 2 then -3 else if x.toInt = 3 ∨ x.toInt = 4 then 0 else -2
def wrS (x : Int32) : Int32 := if 1 ≤ x.toInt ∧ x.toInt ≤ 8 then -3 else -2
def mdS (x : Int32) : Int32 := if 0 ≤ x.toInt ∧ x.toInt ≤ 1 then -9 else -2
def mrS (x : Int32) : Int32 := if x.toInt < 0 then -13 else if 200 < x.toInt then -2 else x
noncomputable def opS (w : Int64) (x : Int32) : Int32 := if (wdI (nmw w) = 0 ∧ mk1 (nmw w) = 0) ∨ ¬ (x.toInt = 1 ∨ x.toInt = 2 ∨ x.toInt = 3 ∨ x.toInt = 5) then -2 else 1
noncomputable def clS (w : Int64) : Int32 := if wdI (nmw w) = 0 then -2 else 1
def prS (x y : Int32) : Int32 := if mk1 x.toInt64 = 0 ∨ mk1 y.toInt64 = 0 then -2 else if x = y then -3 else 1
def goS (x : Int32) : Int32 := if mk1 x.toInt64 = 0 then -2 else 1
theorem Nei {x y : Int32} (h : ¬ x.toInt = y.toInt) : ¬ x = y := fun q => h (by rw [q])
