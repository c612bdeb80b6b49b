/-! rows of kit/laws (COUNTS), pasted: ints as whole numbers -/
theorem fb_rng (x : Int32) : -2147483648 ≤ x.toInt ∧ x.toInt < 2147483648 := by
  have h1 := Int32.le_toInt x
  have h2 := Int32.toInt_lt x
  omega
theorem fb_bmod {z : Int} (h1 : -2147483648 ≤ z) (h2 : z < 2147483648) : z.bmod (2 ^ 32) = z := by
  rw [Int.bmod_eq_of_le (by omega) (by omega)]
theorem fb_addI {x y : Int32} (h1 : -2147483648 ≤ x.toInt + y.toInt) (h2 : x.toInt + y.toInt < 2147483648) : (x + y).toInt = x.toInt + y.toInt := by
  rw [Int32.toInt_add, fb_bmod h1 h2]
theorem fb_subI {x y : Int32} (h1 : -2147483648 ≤ x.toInt - y.toInt) (h2 : x.toInt - y.toInt < 2147483648) : (x - y).toInt = x.toInt - y.toInt := by
  rw [Int32.toInt_sub, fb_bmod h1 h2]
theorem fb_negI {x : Int32} (h : x.toInt ≠ -2147483648) : (-x).toInt = -x.toInt := by
  have := fb_rng x
  rw [Int32.toInt_neg, fb_bmod (by omega) (by omega)]
/-! what the general walks need -/
theorem clI {x : Int32} (h : 0 ≤ x.toInt) : (x.toNatClampNeg : Int) = x.toInt := by
  show ((x.toInt.toNat : Nat) : Int) = x.toInt
  omega
theorem vI {x : Int32} {n : Nat} (h1 : 0 ≤ x.toInt) (h2 : x.toInt < n) : vp_in x n := vp_in_iff.mpr ⟨h1, h2⟩
/-- only the cells a .. c - 1 have changed -/
def On (a c : Nat) (i F : Nat → Nat → Int32) (G : Nat → Nat → Int64) (u : XS) : Prop := (∀ k, (k < a ∨ c ≤ k) → u.1 k = i k ∧ u.2.1 k = F k) ∧ u.2.2 = G
theorem On.rf {a c : Nat} {i F : Nat → Nat → Int32} {G : Nat → Nat → Int64} : On a c i F G (i, F, G) := ⟨fun _ _ => ⟨rfl, rfl⟩, rfl⟩
theorem On.tr {a c a2 c2 : Nat} {i F i2 F2 : Nat → Nat → Int32} {G G2 : Nat → Nat → Int64} {u : XS} (h1 : On a c i F G (i2, F2, G2)) (h2 : On a2 c2 i2 F2 G2 u) (ha : a ≤ a2) (hc : c2 ≤ c) : On a c i F G u := by
  refine ⟨fun k hk => ?_, h2.2.trans h1.2⟩
  have q1 := h1.1 k hk
  have q2 := h2.1 k (by omega)
  exact ⟨q2.1.trans q1.1, q2.2.trans q1.2⟩
theorem On.i {a c k j : Nat} {x : Int32} {i F i2 F2 : Nat → Nat → Int32} {G G2 : Nat → Nat → Int64} (h : On a c i F G (i2, F2, G2)) (hk : a ≤ k ∧ k < c) : On a c i F G (up2 i2 k j x, F2, G2) := by
  refine ⟨fun q hq => ?_, h.2⟩
  have := h.1 q hq
  refine ⟨?_, this.2⟩
  funext t
  show up2 i2 k j x q t = _
  rw [up2_k (by omega)]
  exact congrFun this.1 t
theorem On.f {a c k : Nat} {g : Nat → Int32} {i F i2 F2 : Nat → Nat → Int32} {G G2 : Nat → Nat → Int64} (h : On a c i F G (i2, F2, G2)) (hk : a ≤ k ∧ k < c) : On a c i F G (i2, va_up F2 k g, G2) := by
  refine ⟨fun q hq => ?_, h.2⟩
  have := h.1 q hq
  refine ⟨this.1, ?_⟩
  show va_up F2 k g q = _
  rw [va_up_ne _ _ (by omega)]
  exact this.2
theorem bf_up {F : Nat → Nat → Int32} {k a : Nat} {v : Int32} (h : ∀ j, fits .byte (.int (F k j)) = true) : ∀ j, fits .byte (.int (va_up F k (upd (F k) a v.toInt8.toInt32) k j)) = true := fun j => by
  rw [va_up_self]
  unfold upd
  split
  · exact pk_fb v
  · exact h j
/-- Text.startOf, as its loop goes -/
def soR (f : Nat → Int32) (sz x : Int32) : Nat → Int32 → Int32 → Int32
  | 0, _, _ => -9
  | d + 1, k, q => if sz - 1 ≤ k then -9 else if f k.toNatClampNeg = 10 then (if q + 1 = x then k + 1 else soR f sz x d (k + 1) (q + 1)) else soR f sz x d (k + 1) q
def so_ (f : Nat → Int32) (sz x : Int32) : Int32 := if x = 0 ∧ 0 < sz then 0 else soR f sz x 600 0 0
theorem xcSV {p : Program} {l : Launch} {e : Env} {R : Room} {s : State} {m : MethodId} {args : Array Value} {below : List Frame} {meth : Method} {c : Code} {H : Heap} {locs : List Loc} {cells slots : Nat} {Q : State → Prop} {cc : ByteArray} {nL : Nat} {own : String} {D : va_G} {tA : Nat → ClassId} {b o n : Nat} {A : Nat → Prop} {i F : Nat → Nat → Int32} {G : Nat → Nat → Int64} {pc : Nat} {ls : Array Slot} {rest : List Value} {y : MethodName} {bytes : ByteArray} {maxL fr lo idx : Nat} {ret : Option FieldType} {st : List Value} {post : XS → Prop} {na : Nat} (As : List Value) (hM : xMV l y bytes maxL ret fr lo D tA b o n i F G As post) (C0 : Cx p s m args meth c cc nL own D tA b o n A) (hH : Hd D tA b o n zz i F G H) (hS : va_S A s.heap H locs) (cw : CwS own idx y bytes maxL ret na) (hna : As.length = na) (hR : fr + 1 ≤ R.frames ∧ 8 + (maxL + 11) + lo ≤ R.locals) (hls : ls.size = nL) (hst : st = As.reverse ++ rest) (hro : (rest.map fun v => v.category).sum ≤ 8) (hd : decode cc pc = .ok (.invokestatic idx, 3)) (hf : cells ≤ R.cells ∧ slots ≤ R.slots)
    (kk : ∀ (i F : Nat → Nat → Int32) (G : Nat → Nat → Int64) (H : Heap) (locs : List Loc), post (i, F, G) → Hd D tA b o n zz i F G H → va_S A s.heap H locs → W p l e R s m args below meth c H locs cells slots Q (F0 m (pc + 3) ls rest)) : W p l e R s m args below meth c H locs cells slots Q (F0 m pc ls st) := by
  refine va_callv (A1 := xA b o n) (xrunS C0 hM xfb (fun U hU hW => ⟨by rw [hU]; exact hH, cxtk C0 hS hU hW⟩) cw ⟨rfl, rfl⟩ hna hR hls hst hro hd hf) hS (fun q _ h => by obtain ⟨h1, h2⟩ := h; have := C0.2.2.2.2.2.2.1 (q - b) ⟨by omega, by omega⟩; rwa [show b + (q - b) = q by omega] at this) (fun q h => by obtain ⟨h1, h2⟩ := h; have := C0.2.2.2.2.2.2.1 (q - b) ⟨by omega, by omega⟩; rwa [show b + (q - b) = q by omega] at this) (fun u t H1 l1 ht _ hp hB _ _ hS1 => ?_)
  obtain ⟨i1, F1, G1⟩ := u
  refine kk i1 F1 G1 H1 l1 hp ?_ hS1
  rw [← ht]; exact hB
theorem ng_ {x : Int32} (h : 0 ≤ x.toInt) : ¬ x < 0 := fun q => by have := Int32.lt_iff_toInt_lt.mp q; have : Int32.toInt 0 = 0 := rfl; omega
theorem bf_cpy {f g : Nat → Int32} {a b n : Nat} (hf : ∀ j, fits .byte (.int (f j)) = true) (hg : ∀ j, fits .byte (.int (g j)) = true) : ∀ j, fits .byte (.int (va_cpy f g a b n j)) = true := fun j => by
  by_cases h : b ≤ j ∧ j < b + n
  · rw [pk_cpy_in h.1 h.2]; exact hf _
  · rw [pk_cpy_out (by omega)]; exact hg _
theorem cp_ok {sp dp q : Int32} {N0 N1 : Nat} {f : Nat → Int32} (h1 : 0 ≤ sp.toInt) (h2 : 0 ≤ dp.toInt) (h3 : 0 ≤ q.toInt) (h4 : sp.toInt + q.toInt ≤ N0) (h5 : dp.toInt + q.toInt ≤ N1) (hf : ∀ j, fits .byte (.int (f j)) = true) : (¬ sp < 0 ∧ ¬ dp < 0 ∧ ¬ q < 0) ∧ sp.toNatClampNeg + q.toNatClampNeg ≤ N0 ∧ dp.toNatClampNeg + q.toNatClampNeg ≤ N1 ∧ ∀ j, j < q.toNatClampNeg → fits .byte (.int (f (sp.toNatClampNeg + j))) = true := by
  have a1 := clI h1
  have a2 := clI h2
  have a3 := clI h3
  exact ⟨⟨ng_ h1, ng_ h2, ng_ h3⟩, by omega, by omega, fun j _ => hf _⟩
