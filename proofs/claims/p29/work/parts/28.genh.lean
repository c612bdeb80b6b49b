theorem xcVL {p : Program} {l : Launch} {e : Env} {R : Room} {s : State} {m : MethodId} {args : Array Value} {below : List Frame} {meth : Method} {c : Code} {H : Heap} {locs : List Loc} {cells slots : Nat} {Q : State → Prop} {cc : ByteArray} {nL : Nat} {own : String} {D : va_G} {tA : Nat → ClassId} {b o n : Nat} {A : Nat → Prop} {i F : Nat → Nat → Int32} {G : Nat → Nat → Int64} {pc : Nat} {ls : Array Slot} {rest : List Value} {y : MethodName} {bytes : ByteArray} {maxL fr lo idx : Nat} {ret : Option FieldType} {st : List Value} {post : Int64 → XS → Prop} {na ci N : Nat} {Cn : String} {T : u_T} {ty0 : Nat → FieldType} (k : Nat) (As : List Value) (hM : xML l y bytes maxL ret fr lo D tA b o n i F G (.ref (b + k) :: As) post) (C0 : Cx p s m args meth c cc nL own D tA b o n A) (hH : Hd D tA b o n zz i F G H) (hS : va_S A s.heap H locs) (cl : Cl ci Cn T ty0 N) (hC : y.cls = Cn) (hk : (o ≤ k ∧ k < o + n) ∧ ckd k = ci ∧ cnn k = N) (cw : CwV own idx y bytes maxL ret na) (hna : As.length = na) (hR : fr + 1 ≤ R.frames ∧ 8 + (maxL + 11) + lo ≤ R.locals) (hls : ls.size = nL) (hst : st = As.reverse ++ .ref (b + k) :: rest) (hro : (rest.map fun v => v.category).sum ≤ 8) (hd : decode cc pc = .ok (.invokevirtual idx, 3)) (hf : cells ≤ R.cells ∧ slots ≤ R.slots)
    (kk : ∀ (r : Int64) (i F : Nat → Nat → Int32) (G : Nat → Nat → Int64) (H : Heap) (locs : List Loc), post r (i, F, G) → Hd D tA b o n zz i F G H → va_S A s.heap H locs → W p l e R s m args below meth c H locs cells slots Q (F0 m (pc + 3) ls (.long r :: rest))) : W p l e R s m args below meth c H locs cells slots Q (F0 m pc ls st) := by
  refine va_calll (A1 := xA b o n) (xrunV C0 (by rw [hC]; exact xrecv C0 hH cl hk.1 hk.2) hM xfb (fun U hU hW => ⟨by rw [hU]; exact hH, cxtk C0 hS hU hW⟩) cw ⟨rfl, rfl⟩ hna hR hls hst hro hd hf) hS (fun q _ h => by obtain ⟨h1, h2⟩ := h; have := C0.2.2.2.2.2.2.1 (q - b) ⟨by omega, by omega⟩; rwa [show b + (q - b) = q by omega] at this) (fun q h => by obtain ⟨h1, h2⟩ := h; have := C0.2.2.2.2.2.2.1 (q - b) ⟨by omega, by omega⟩; rwa [show b + (q - b) = q by omega] at this) (fun r u t H1 l1 ht _ hp hB _ _ hS1 => ?_)
  obtain ⟨i1, F1, G1⟩ := u
  refine kk r i1 F1 G1 H1 l1 hp ?_ hS1
  rw [← ht]; exact hB
def inR (f : Nat → Int32) (a c : Int) : Prop := ∀ j, a ≤ (f j).toInt ∧ (f j).toInt < c
theorem inR.up {f : Nat → Int32} {a c : Int} {n : Nat} {v : Int32} (h : inR f a c) (h1 : a ≤ v.toInt) (h2 : v.toInt < c) : inR (upd f n v) a c := fun j => by
  unfold upd
  split
  · exact ⟨h1, h2⟩
  · exact h j
theorem upd0 {f : Nat → Int32} {x v : Int32} (h : 1 ≤ x.toInt) : upd f x.toNatClampNeg v 0 = f 0 := by
  have := clI (x := x) (by omega)
  unfold upd
  rw [if_neg (by omega)]
theorem upd_s {f : Nat → Int32} {n : Nat} {v : Int32} : upd f n v n = v := by unfold upd; rw [if_pos rfl]
theorem upd_n {f : Nat → Int32} {n k : Nat} {v : Int32} (h : k ≠ n) : upd f n v k = f k := by unfold upd; rw [if_neg h]
