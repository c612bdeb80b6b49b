theorem dL_law_18 : decode cL_law 18 = .ok (.iload_n 3, 1) := by decide +kernel
theorem dL_law_19 : decode cL_law 19 = .ok (.aload_n 0, 1) := by decide +kernel
theorem dL_law_20 : decode cL_law 20 = .ok (.arraylength, 1) := by decide +kernel
theorem dL_law_21 : decode cL_law 21 = .ok (.iconst 4, 1) := by decide +kernel
theorem dL_law_22 : decode cL_law 22 = .ok (.isub, 1) := by decide +kernel
theorem dL_law_23 : decode cL_law 23 = .ok (.if_icmp .gt 997, 3) := by decide +kernel
theorem dL_law_26 : decode cL_law 26 = .ok (.aload_n 0, 1) := by decide +kernel
theorem dL_law_27 : decode cL_law 27 = .ok (.iload_n 3, 1) := by decide +kernel
theorem dL_law_28 : decode cL_law 28 = .ok (.iaload, 1) := by decide +kernel
theorem dL_law_29 : decode cL_law 29 = .ok (.bipush 31, 2) := by decide +kernel
theorem dL_law_31 : decode cL_law 31 = .ok (.iand, 1) := by decide +kernel
theorem dL_law_32 : decode cL_law 32 = .ok (.tableswitch 982 0 29 #[136, 199, 232, 285, 308, 331, 384, 407, 440, 453, 476, 489, 512, 535, 568, 601, 634, 667, 710, 769, 802, 815, 838, 861, 874, 887, 900, 923, 946, 959], 136) := by decide +kernel
theorem dL_law_1014 : decode cL_law 1014 = .ok (.iinc 3 4, 3) := by decide +kernel
theorem dL_law_1017 : decode cL_law 1017 = .ok (.goto (-999), 3) := by decide +kernel
theorem dL_law_1020 : decode cL_law 1020 = .ok (.iconst 1, 1) := by decide +kernel
theorem dL_law_1021 : decode cL_law 1021 = .ok (.ireturn, 1) := by decide +kernel
def R_law : String := "IndentReaderLaw"
def lw_P (b : Addr) (xs : List Int32) (args : Array Value) (s : State) : Prop := args = #[.ref b] ∧ s.IntsAt b xs ∧ xs.length ≤ 2048 ∧ (Jvm.Cond.and given_1 narrow_1).before args s = true
def lw_Q (_ : Array Value) (s : State) (o : Outcome) (t : State) : Prop := o = .returned (some (.int 1)) ∧ Framed s o t [] 130 99576
def lw_Z (below : List Frame) (a : Array Value) (s : State) : State → Prop := fun t => ∃ o, t.status = .running ∧ Ended t below o ∧ lw_Q a s o t
/-- the law's own end, with 1 on the stack, nothing written that was there before, its room as the claim has it -/
theorem lw_ret {p : Program} {l : Launch} {e : Env} {s : State} {m : MethodId} {below : List Frame} {meth : Method} {c : Code} {b : Nat} (hx : p.tables.exec = Jvm.exec) (hb : c.code = code) (hr : meth.sig.returnType = ret) (hlocks : meth.locks = false) {pc : Nat} {H : Heap} {ls : Array Slot} (hdg : decode code pc = .ok (.ireturn, 1)) : W p l e room_1 s m #[Value.ref b] below meth c H [] 130 99576 (lw_Z below #[Value.ref b] s) (F0 m pc ls [.int 1]) := by
  intro T hT X
  obtain ⟨fs, hret, hrun, hended, hW, hframe⟩ := X.leave (v := some (.int 1)) (hlocks := hlocks) (fun h => by rw [hr] at h; cases h)
  have hmeth' : T.vm.method? m = some meth := X.method'
  refine ⟨T.setFrames fs, ?_, .returned (some (.int 1)), hrun, hended, rfl, ⟨_, rfl⟩, hW, hframe⟩
  jvm_step X.here [X.here.top, hx, hb, hdg, hmeth', hr, ret, narrow_b1]
  (try refine ⟨rfl, ?_⟩); (try refine ⟨rfl, ?_⟩)
  first | (intro acts; rw [hret _ acts rfl rfl rfl]) | rw [hret _ _ rfl rfl rfl]
  exact Steps.refl _
/-- what holds at the law's entry: the machine, the code, the tables' words (any of lw_tbl by 'hts w (by decide +kernel)'), the script of L ints xs at the cell b, what the Statement gives of the start (any of its parts by flat_of_before) -/
def lw_At (p : Program) (s : State) (m : MethodId) (meth : Method) (c : Code) (b L : Nat) (xs : Nat → Int32) : Prop :=
  p.tables.exec = Jvm.exec ∧ c.code = code ∧ meth.sig.returnType = ret ∧ c.maxLocals = 4 ∧ s.vm.findClass R_law = some m.cls ∧ (∀ w ∈ lw_tbl, w.before #[Value.ref b] s = true) ∧ va_X b L xs s s.heap ∧ b < s.heap.size ∧ meth.locks = false ∧ (Jvm.Cond.and given_1 narrow_1).before #[Value.ref b] s = true

def i0 : Nat → Nat → Int32 := fun k j => if k = 0 then (if j = 6 then 73 else if j = 7 then 75 else if j = 10 then -9 else if j = 11 then -9 else 0) else if k = 8 then (if j = 3 then -9 else if j = 4 then -9 else if j = 5 then -9 else 0) else if k = 39 then (if j = 3 then -9 else if j = 4 then -9 else if j = 5 then -9 else 0) else if k = 78 then (if j = 17 then 85 else 0) else 0
def F0_ : Nat → Nat → Int32 := fun k j => if k = 87 then (if j = 1 then -9 else if j = 2 then -9 else if j = 3 then -9 else 0) else if k = 128 then (if j = 0 then -9 else if j = 1 then -9 else 0) else 0
def G0_ : Nat → Nat → Int64 := fun _ _ => 0
def z1_ : Nat → Nat → Bool := fun _ _ => true
def i1_ : Nat → Nat → Int32 := fun _ _ => 0
theorem xE_cg {b : Nat} {tA : Nat → ClassId} {z z' : Nat → Nat → Bool} {i i' F F' : Nat → Nat → Int32} {G : Nat → Nat → Int64} {k : Nat} (ho : ckd k < 50 → ∀ j, j < cnn k → (rtt k j = 0 → i k j = i' k j) ∧ (¬ rtt k j = 0 → z k j = z' k j ∧ (rtt k j = 1000 → i k j = i' k j))) (hF : F k = F' k) : xE b tA z i F G k = xE b tA z' i' F' G k := by
  by_cases h : ckd k < 50
  · rw [xE_o h, xE_o h]
    congr 2
    apply List.map_congr_left
    intro j hj
    have hj := List.mem_range.mp hj
    have q := ho h j hj
    unfold xV
    by_cases h1 : rtt k j = 0
    · rw [if_pos h1, if_pos h1, q.1 h1]
    · rw [if_neg h1, if_neg h1, (q.2 h1).1]
      by_cases h2 : rtt k j = 1000
      · rw [if_pos h2, if_pos h2, (q.2 h1).2 h2]
      · rw [if_neg h2, if_neg h2]
  · unfold xE
    rw [if_neg h, if_neg h, hF]
theorem Hd.cg {D : va_G} {tA : Nat → ClassId} {b o n : Nat} {z z' : Nat → Nat → Bool} {i i' F F' : Nat → Nat → Int32} {G : Nat → Nat → Int64} {H : Heap} (h : Hd D tA b o n z i F G H) (hc : ∀ k, o ≤ k ∧ k < o + n → xE b tA z i F G k = xE b tA z' i' F' G k) : Hd D tA b o n z' i' F' G H := by
  have e : wl b tA z i F G o n = wl b tA z' i' F' G o n := by
    unfold wl
    apply List.map_congr_left
    intro k hk
    have hk := List.mem_range.mp hk
    rw [hc (o + k) (by omega)]
  unfold Hd at h ⊢
  rw [← e]
  exact h
theorem Hd.kept {D : va_G} {tA : Nat → ClassId} {b o n : Nat} {z : Nat → Nat → Bool} {i F : Nat → Nat → Int32} {G : Nat → Nat → Int64} {H H1 : Heap} (h : Hd D tA b o n z i F G H) (hq : ∀ k, o ≤ k ∧ k < o + n → H1[b + k]? = H[b + k]?) : Hd D tA b o n z i F G H1 := by
  refine va_P.kept h (fun k q hk => ?_)
  have hl : k < n := by have := (List.getElem?_eq_some_iff.mp hk).1; simpa [wl] using this
  have h9 := wl_at (b := b) (tA := tA) (z := z) (i := i) (F := F) (G := G) (o := o) (n := n) (k := o + k) (by omega)
  rw [show o + k - o = k by omega, hk] at h9
  obtain rfl := Option.some.inj h9
  exact hq (o + k) (by omega)
theorem Hd.lt {D : va_G} {tA : Nat → ClassId} {b o n : Nat} {z : Nat → Nat → Bool} {i F : Nat → Nat → Int32} {G : Nat → Nat → Int64} {H : Heap} (h : Hd D tA b o n z i F G H) {k : Nat} (hk : o ≤ k ∧ k < o + n) : b + k < H.size := va_at.lt (h _ _ (wl_at hk))
/-- a call of an int method at the law: the other world stays -/
theorem xcVIK {p : Program} {l : Launch} {e : Env} {R : Room} {s : State} {m : MethodId} {args : Array Value} {below : List Frame} {meth : Method} {c : Code} {H : Heap} {locs : List Loc} {cells slots : Nat} {Q : State → Prop} {cc : ByteArray} {nL : Nat} {own : String} {D : va_G} {tA : Nat → ClassId} {b o n o2 n2 : Nat} {A : Nat → Prop} {i F i2 F2 : Nat → Nat → Int32} {G G2 : Nat → Nat → Int64} {pc : Nat} {ls : Array Slot} {rest : List Value} {y : MethodName} {bytes : ByteArray} {maxL fr lo idx : Nat} {ret : Option FieldType} {st : List Value} {post : Int32 → XS → Prop} {na ci N : Nat} {Cn : String} {T : u_T} {ty0 : Nat → FieldType} (k : Nat) (As : List Value) (hM : xMI l y bytes maxL ret fr lo D tA b o n i F G (.ref (b + k) :: As) post) (C0 : Cx p s m args meth c cc nL own D tA b o n A) (hH : Hd D tA b o n zz i F G H) (hH2 : Hd D tA b o2 n2 zz i2 F2 G2 H) (hap : o + n ≤ o2 ∨ o2 + n2 ≤ o) (hS : va_S A s.heap H locs) (cl : Cl ci Cn T ty0 N) (hC : y.cls = Cn) (hk : (o ≤ k ∧ k < o + n) ∧ ckd k = ci ∧ cnn k = N) (cw : CwV own idx y bytes maxL ret na) (hna : As.length = na) (hR : fr + 1 ≤ R.frames ∧ 8 + (maxL + 11) + lo ≤ R.locals) (hls : ls.size = nL) (hst : st = As.reverse ++ .ref (b + k) :: rest) (hro : (rest.map fun v => v.category).sum ≤ 8) (hd : decode cc pc = .ok (.invokevirtual idx, 3)) (hf : cells ≤ R.cells ∧ slots ≤ R.slots)
    (kk : ∀ (r : Int32) (u : XS) (H : Heap) (locs : List Loc), post r u → Hd D tA b o n zz u.1 u.2.1 u.2.2 H → Hd D tA b o2 n2 zz i2 F2 G2 H → va_S A s.heap H locs → W p l e R s m args below meth c H locs cells slots Q (F0 m (pc + 3) ls (.int r :: rest))) : W p l e R s m args below meth c H locs cells slots Q (F0 m pc ls st) := by
  refine va_calli (A1 := xA b o n) (xrunV C0 (by rw [hC]; exact xrecv C0 hH cl hk.1 hk.2) hM xfb (fun U hU hW => ⟨by rw [hU]; exact hH, cxtk C0 hS hU hW⟩) cw ⟨rfl, rfl⟩ hna hR hls hst hro hd hf) hS (fun q _ h => by obtain ⟨h1, h2⟩ := h; have := C0.2.2.2.2.2.2.1 (q - b) ⟨by omega, by omega⟩; rwa [show b + (q - b) = q by omega] at this) (fun q h => by obtain ⟨h1, h2⟩ := h; have := C0.2.2.2.2.2.2.1 (q - b) ⟨by omega, by omega⟩; rwa [show b + (q - b) = q by omega] at this) (fun r u t H1 l1 ht _ hp hB _ hkp hS1 => ?_)
  refine kk r u H1 l1 hp ?_ (hH2.kept (fun a ha => hkp _ (hH2.lt ha) (fun q => by obtain ⟨q1, q2⟩ := q; omega))) hS1
  rw [← ht]; exact hB
/-- all that stands at the law's loop -/
def LW (p : Program) (s : State) (m : MethodId) (meth : Method) (c : Code) (D : va_G) (tA : Nat → ClassId) (b sb L : Nat) (xs : Nat → Int32) : Prop := L ≤ 2048 ∧ Cx p s m #[Value.ref sb] meth c code 4 RL D tA b 0 78 (Sb b) ∧ Cx p s m #[Value.ref sb] meth c code 4 RL D tA b 78 52 (Sb b) ∧ va_X sb L xs s s.heap ∧ sb < s.heap.size ∧ b = s.heap.size ∧ meth.sig.returnType = ret ∧ meth.locks = false
theorem law_out {p : Program} {l : Launch} {e : Env} {s : State} {m : MethodId} {below : List Frame} {meth : Method} {c : Code} {H : Heap} {locs : List Loc} {D : va_G} {tA : Nat → ClassId} {b sb : Nat} {xs : Nat → Int32} {ls : Array Slot} {L : Nat} (C : LW p s m meth c D tA b sb L xs) (hS : va_S (Sb b) s.heap H locs) : W p l e room_1 s m #[Value.ref sb] below meth c H locs 130 99576 (lw_Z below #[Value.ref sb] s) (F0 m 1020 ls []) := by
  obtain ⟨hL, C0, C2, hX, hbl, hb, hr, hlk⟩ := C
  refine lv_iconst (pc := 1020) (v := 1) C0.1 C0.2.1 dL_law_1020 (by decide) ?_
  refine va_forget (fun q h => by have := hS.2.2 q h; rw [← hb]; exact this) ?_
  exact lw_ret C0.1 C0.2.1 hr hlk dL_law_1021

