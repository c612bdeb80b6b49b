/-! CONTRACTS over the one world: start, returns, calls, new cells. -/
abbrev XS : Type := (Nat → Nat → Int32) × (Nat → Nat → Int32) × (Nat → Nat → Int64)
def xPc (D : va_G) (tA : Nat → ClassId) (b o n : Nat) (z : Nat → Nat → Bool) (i F : Nat → Nat → Int32) (G : Nat → Nat → Int64) (As : List Value) : Array Value → State → Prop := va_Pc As (fun U => Hd D tA b o n z i F G U.heap ∧ TK D tA b U)
def xB (D : va_G) (tA : Nat → ClassId) (b o n : Nat) (z : Nat → Nat → Bool) (u : XS) (t : State) : Prop := Hd D tA b o n z u.1 u.2.1 u.2.2 t.heap
def xW (y : MethodName) (cc : ByteArray) (nL : Nat) (ret : Option FieldType) : List Cond := Cond.code y cc nL ret :: WALL
abbrev xR (fr lo : Nat) : Room := { frames := fr, cells := 0, slots := 0, locals := lo }
/-- an int (or boolean) comes back -/
abbrev xMI (l : Launch) (y : MethodName) (cc : ByteArray) (nL : Nat) (ret : Option FieldType) (fr lo : Nat) (D : va_G) (tA : Nat → ClassId) (b o n : Nat) (i F : Nat → Nat → Int32) (G : Nat → Nat → Int64) (As : List Value) (post : Int32 → XS → Prop) : Prop := Met l y (xW y cc nL ret) (xR fr lo) (xPc D tA b o n zz i F G As) (va_Qi post (xB D tA b o n zz) (xA b o n)) 0 0 (xA b o n)
abbrev xML (l : Launch) (y : MethodName) (cc : ByteArray) (nL : Nat) (ret : Option FieldType) (fr lo : Nat) (D : va_G) (tA : Nat → ClassId) (b o n : Nat) (i F : Nat → Nat → Int32) (G : Nat → Nat → Int64) (As : List Value) (post : Int64 → XS → Prop) : Prop := Met l y (xW y cc nL ret) (xR fr lo) (xPc D tA b o n zz i F G As) (va_Ql post (xB D tA b o n zz) (xA b o n)) 0 0 (xA b o n)
abbrev xMV (l : Launch) (y : MethodName) (cc : ByteArray) (nL : Nat) (ret : Option FieldType) (fr lo : Nat) (D : va_G) (tA : Nat → ClassId) (b o n : Nat) (i F : Nat → Nat → Int32) (G : Nat → Nat → Int64) (As : List Value) (post : XS → Prop) : Prop := Met l y (xW y cc nL ret) (xR fr lo) (xPc D tA b o n zz i F G As) (va_Qv post (xB D tA b o n zz) (xA b o n)) 0 0 (xA b o n)
theorem xstart0 {l : Launch} {y : MethodName} {cc : ByteArray} {nL : Nat} {ret : Option FieldType} {rm : Room} {mc ms n0 b o : Nat} {D : va_G} {tA : Nat → ClassId} {B : State → Prop} {As : List Value} {Qc : Array Value → State → Outcome → State → Prop} (own : String) (ho : y.cls = own) (hy : plainName y.cls = true) (hn : (lg_sl As).length ≤ nL) (hB : ∀ U, B U → TK D tA b U)
    (body : ∀ (p : Program) (e : Env) (s : State) (m : MethodId) (below : List Frame) (meth : Method) (c : Code) (ls : Array Slot), Cx p s m As.toArray meth c cc nL own D tA b o n0 (xA b o n0) → meth.sig.returnType = ret → meth.name = y.name → B s → va_S (xA b o n0) s.heap s.heap [] → lv_has ls nL (lv_args 0 As) → W p l e rm s m As.toArray below meth c s.heap [] 0 0 (MQ below Qc As.toArray s mc ms (xA b o n0)) (F0 m 0 ls [])) :
    Met l y (xW y cc nL ret) rm (va_Pc As B) Qc mc ms (xA b o n0) := by
  refine Met.ofW (cc := cc) (maxL := nL) (ret := ret) hy rfl ?_
  intro p e s m args below meth c s₁ B0 hml hv
  obtain ⟨rfl, hv⟩ := hv
  have hts := atoms_spec (ws := xW y cc nL ret) B0.pre
  have hown : s.vm.findClass own = some m.cls := by rw [← ho]; exact findClass_of_methodNamed B0.named
  have hl := lv_entry As (n := nL) hn
  rw [lg_entry_eq]
  generalize (lg_sl As ++ List.replicate (nL - (lg_sl As).length) Slot.unset).toArray = ls at hl ⊢
  exact body p e s m below meth c ls ⟨B0.exec, B0.bytes, hml, hown, fun w h => hts w (List.mem_cons_of_mem _ h), hB s hv, fun k hk => xA_in hk, B0.notSynchronized, fun q h => by have := h.1; omega⟩ B0.returns (name_of_methodNamed B0.named B0.method).1 hv va_S.rf hl
theorem xstart {l : Launch} {y : MethodName} {cc : ByteArray} {nL : Nat} {ret : Option FieldType} {fr lo b o n : Nat} {D : va_G} {tA : Nat → ClassId} {i F : Nat → Nat → Int32} {G : Nat → Nat → Int64} {As : List Value} {Qc : Array Value → State → Outcome → State → Prop} (own : String) (ho : y.cls = own) (hy : plainName y.cls = true) (hn : (lg_sl As).length ≤ nL)
    (body : ∀ (p : Program) (e : Env) (s : State) (m : MethodId) (below : List Frame) (meth : Method) (c : Code) (ls : Array Slot), Cx p s m As.toArray meth c cc nL own D tA b o n (xA b o n) → meth.sig.returnType = ret → Hd D tA b o n zz i F G s.heap → va_S (xA b o n) s.heap s.heap [] → lv_has ls nL (lv_args 0 As) → W p l e (xR fr lo) s m As.toArray below meth c s.heap [] 0 0 (MQ below Qc As.toArray s 0 0 (xA b o n)) (F0 m 0 ls [])) :
    Met l y (xW y cc nL ret) (xR fr lo) (xPc D tA b o n zz i F G As) Qc 0 0 (xA b o n) :=
  xstart0 own ho hy hn (fun _ h => h.2) (fun p e s m below meth c ls h1 h2 _ h3 h4 h5 => body p e s m below meth c ls h1 h2 h3.1 h4 h5)
section XC
variable {p : Program} {l : Launch} {e : Env} {R : Room} {s : State} {m : MethodId} {args : Array Value} {below : List Frame} {meth : Method} {c : Code} {H : Heap} {locs : List Loc} {cells slots : Nat} {Q : State → Prop}
variable {cc : ByteArray} {nL : Nat} {own : String} {D : va_G} {tA : Nat → ClassId} {b o n n0 : Nat} {A : Nat → Prop} {z : Nat → Nat → Bool} {i F : Nat → Nat → Int32} {G : Nat → Nat → Int64} {pc : Nat} {ls : Array Slot} {rest : List Value} {H0 : Heap}
theorem xiret {post : Int32 → XS → Prop} {v : Int32} (C0 : Cx p s m args meth c cc nL own D tA b o n0 A) (hr : meth.sig.returnType = some .int) (hH : Hd D tA b o n z i F G H) (hS : va_S A s.heap H locs) (hd : decode cc pc = .ok (.ireturn, 1)) (hp : post v (i, F, G)) : W p l e R s m args below meth c H locs cells slots (MQ below (va_Qi post (xB D tA b o n z) A) args s cells slots A) (F0 m pc ls [.int v]) :=
  W.iret C0.1 C0.2.1 hr (fun t ht _ => ⟨⟨v, (i, F, G), rfl, hp, by show Hd _ _ _ _ _ _ _ _ _ _; rw [ht]; exact hH⟩, hS.F ht⟩) hS.2.2 hd (hlocks := C0.2.2.2.2.2.2.2.1)
theorem xzret {post : Int32 → XS → Prop} {v : Int32} (C0 : Cx p s m args meth c cc nL own D tA b o n0 A) (hr : meth.sig.returnType = some .boolean) (hH : Hd D tA b o n z i F G H) (hS : va_S A s.heap H locs) (hd : decode cc pc = .ok (.ireturn, 1)) (hv : v = 0 ∨ v = 1) (hp : post v (i, F, G)) : W p l e R s m args below meth c H locs cells slots (MQ below (va_Qi post (xB D tA b o n z) A) args s cells slots A) (F0 m pc ls [.int v]) :=
  W.zret C0.1 C0.2.1 hr (by rcases hv with rfl | rfl <;> rfl) (fun t ht _ => ⟨⟨v, (i, F, G), rfl, hp, by show Hd _ _ _ _ _ _ _ _ _ _; rw [ht]; exact hH⟩, hS.F ht⟩) hS.2.2 hd (hlocks := C0.2.2.2.2.2.2.2.1)
theorem xbret {post : Int32 → XS → Prop} {v : Int32} (C0 : Cx p s m args meth c cc nL own D tA b o n0 A) (hr : meth.sig.returnType = some .byte) (hH : Hd D tA b o n z i F G H) (hS : va_S A s.heap H locs) (hd : decode cc pc = .ok (.ireturn, 1)) (hv : narrow .byte (.int v) = .int v) (hp : post v (i, F, G)) : W p l e R s m args below meth c H locs cells slots (MQ below (va_Qi post (xB D tA b o n z) A) args s cells slots A) (F0 m pc ls [.int v]) :=
  W.zret C0.1 C0.2.1 hr hv (fun t ht _ => ⟨⟨v, (i, F, G), rfl, hp, by show Hd _ _ _ _ _ _ _ _ _ _; rw [ht]; exact hH⟩, hS.F ht⟩) hS.2.2 hd (hlocks := C0.2.2.2.2.2.2.2.1)
theorem xlret {post : Int64 → XS → Prop} {v : Int64} (C0 : Cx p s m args meth c cc nL own D tA b o n0 A) (hr : meth.sig.returnType = some .long) (hH : Hd D tA b o n z i F G H) (hS : va_S A s.heap H locs) (hd : decode cc pc = .ok (.lreturn, 1)) (hp : post v (i, F, G)) : W p l e R s m args below meth c H locs cells slots (MQ below (va_Ql post (xB D tA b o n z) A) args s cells slots A) (F0 m pc ls [.long v]) :=
  W.lret C0.1 C0.2.1 hr (fun t ht _ => ⟨⟨v, (i, F, G), rfl, hp, by show Hd _ _ _ _ _ _ _ _ _ _; rw [ht]; exact hH⟩, hS.F ht⟩) hS.2.2 hd (hlocks := C0.2.2.2.2.2.2.2.1)
theorem xvret {post : XS → Prop} (C0 : Cx p s m args meth c cc nL own D tA b o n0 A) (hr : meth.sig.returnType = none) (hH : Hd D tA b o n z i F G H) (hS : va_S A s.heap H locs) (hd : decode cc pc = .ok (.return_, 1)) (hp : post (i, F, G)) : W p l e R s m args below meth c H locs cells slots (MQ below (va_Qv post (xB D tA b o n z) A) args s cells slots A) (F0 m pc ls []) :=
  W.vret C0.1 C0.2.1 hr (fun t ht _ => ⟨⟨(i, F, G), rfl, hp, by show Hd _ _ _ _ _ _ _ _ _ _; rw [ht]; exact hH⟩, hS.F ht⟩) hS.2.2 hd (hlocks := C0.2.2.2.2.2.2.2.1)
variable {y : MethodName} {bytes : ByteArray} {maxL fr lo idx : Nat} {ret : Option FieldType} {As st : List Value}
theorem xfb : FrameBlind (xPc D tA b o n z i F G As) := fun _ _ _ _ h => ⟨h.1, h.2.1, h.2.2.calling⟩
theorem gC {y : MethodName} (h : Cond.code y bytes maxL ret ∈ WALL) : ∀ w ∈ xW y bytes maxL ret, w ∈ WALL := fun w hw => by
  rcases List.mem_cons.mp hw with q | q
  · rw [q]; exact h
  · exact q
/-- the words of a call of an instance method: its link, its code, what it selects, its class -/
def CwV (own : String) (idx : Nat) (y : MethodName) (bytes : ByteArray) (maxL : Nat) (ret : Option FieldType) (na : Nat) : Prop := Cond.methodLink own idx y ∈ WALL ∧ Cond.instanceMethod y ∈ WALL ∧ Cond.selects y.cls y y ∈ WALL ∧ Cond.initialized y.cls ∈ WALL ∧ Cond.code y bytes maxL ret ∈ WALL ∧ (y.cls ≠ "java/lang/invoke/MethodHandle" ∧ y.cls ≠ "java/lang/invoke/VarHandle" ∧ (parseMethodDescriptor y.desc).map (fun d => d.parameters.length) = some na)
def CwS (own : String) (idx : Nat) (y : MethodName) (bytes : ByteArray) (maxL : Nat) (ret : Option FieldType) (na : Nat) : Prop := Cond.methodLink own idx y ∈ WALL ∧ Cond.static y ∈ WALL ∧ Cond.initialized y.cls ∈ WALL ∧ Cond.code y bytes maxL ret ∈ WALL ∧ (y.cls ≠ "java/lang/invoke/MethodHandle" ∧ y.cls ≠ "java/lang/invoke/VarHandle" ∧ (parseMethodDescriptor y.desc).map (fun d => d.parameters.length) = some na)
def CwN (own host : String) (idx : Nat) (y : MethodName) (bytes : ByteArray) (maxL : Nat) (ret : Option FieldType) (na : Nat) : Prop := Cond.methodLinkNest own idx y host ∈ nestW ∧ Cond.initialized y.cls ∈ WALL ∧ Cond.code y bytes maxL ret ∈ WALL ∧ (y.cls ≠ "java/lang/invoke/MethodHandle" ∧ y.cls ≠ "java/lang/invoke/VarHandle" ∧ (parseMethodDescriptor y.desc).map (fun d => d.parameters.length) = some na)
theorem xrunV {Qc : Array Value → State → Outcome → State → Prop} {mc ms na : Nat} {B : State → Prop} {rm : Room} {free : Nat → Prop} (C0 : Cx p s m args meth c cc nL own D tA b o n0 A) {q : Nat} (hrecv : ∃ cellB : Cell, H[q]? = some cellB ∧ cellB.vm.isStatics = false ∧ s.vm.findClass y.cls = some cellB.cls) (hM : Met l y (xW y bytes maxL ret) rm (va_Pc (.ref q :: As) B) Qc mc ms free) (hbl : FrameBlind (va_Pc (.ref q :: As) B)) (hB : ∀ U : State, U.heap = H → s.WarmedH U.vm → B U) (cw : CwV own idx y bytes maxL ret na) (hrm : rm.cells = mc ∧ rm.slots = ms) (hna : As.length = na) (hR : rm.frames + 1 ≤ R.frames ∧ 8 + (maxL + 11) + rm.locals ≤ R.locals) (hls : ls.size = nL) (hst : st = As.reverse ++ .ref q :: rest) (hro : (rest.map fun v => v.category).sum ≤ 8) (hd : decode cc pc = .ok (.invokevirtual idx, 3)) (hf : cells + mc ≤ R.cells ∧ slots + ms ≤ R.slots) :
    va_Run p l e R s m args below meth c H locs cells slots mc ms (F0 m pc ls st) rest (Qc (Value.ref q :: As).toArray) free := by
  obtain ⟨hx, hb, hml, hown, hts, hT, hA, hlk⟩ := C0
  obtain ⟨w1, w2, w3, w4, w5, w6⟩ := cw
  refine va_runV (C := y.cls) ⟨hx, hb, hml, hown, hts⟩ hM ⟨callB_of na hts (gW (gC w5)) rfl hrm.1 hrm.2 (hts _ w4) (hts _ w1) w6 hR, hts _ w2, hts _ w3⟩ ⟨hbl, hrecv, fun U hU hW => ⟨rfl, hB U hU hW⟩⟩ rfl hna hls hst (lv_room hro) hd hf
theorem xrunS {Qc : Array Value → State → Outcome → State → Prop} {mc ms na : Nat} {B : State → Prop} {rm : Room} {free : Nat → Prop} (C0 : Cx p s m args meth c cc nL own D tA b o n0 A) (hM : Met l y (xW y bytes maxL ret) rm (va_Pc As B) Qc mc ms free) (hbl : FrameBlind (va_Pc As B)) (hB : ∀ U : State, U.heap = H → s.WarmedH U.vm → B U) (cw : CwS own idx y bytes maxL ret na) (hrm : rm.cells = mc ∧ rm.slots = ms) (hna : As.length = na) (hR : rm.frames + 1 ≤ R.frames ∧ 8 + (maxL + 11) + rm.locals ≤ R.locals) (hls : ls.size = nL) (hst : st = As.reverse ++ rest) (hro : (rest.map fun v => v.category).sum ≤ 8) (hd : decode cc pc = .ok (.invokestatic idx, 3)) (hf : cells + mc ≤ R.cells ∧ slots + ms ≤ R.slots) :
    va_Run p l e R s m args below meth c H locs cells slots mc ms (F0 m pc ls st) rest (Qc As.toArray) free := by
  obtain ⟨hx, hb, hml, hown, hts, hT, hA, hlk⟩ := C0
  obtain ⟨w1, w2, w4, w5, w6⟩ := cw
  refine va_runS ⟨hx, hb, hml, hown, hts⟩ hM ⟨callB_of na hts (gW (gC w5)) rfl hrm.1 hrm.2 (hts _ w4) (hts _ w1) w6 hR, hts _ w2⟩ ⟨hbl, fun U hU hW => ⟨rfl, hB U hU hW⟩⟩ rfl hna hls hst (lv_room hro) hd hf
theorem xrunSN {Qc : Array Value → State → Outcome → State → Prop} {mc ms na : Nat} {B : State → Prop} {rm : Room} {free : Nat → Prop} {host : String} (C0 : Cx p s m args meth c cc nL own D tA b o n0 A) (hM : Met l y (xW y bytes maxL ret) rm (va_Pc As B) Qc mc ms free) (hbl : FrameBlind (va_Pc As B)) (hB : ∀ U : State, U.heap = H → s.WarmedH U.vm → B U) (cw : CwN own host idx y bytes maxL ret na) (hstat : Cond.static y ∈ WALL) (hrm : rm.cells = mc ∧ rm.slots = ms) (hna : As.length = na) (hR : rm.frames + 1 ≤ R.frames ∧ 8 + (maxL + 11) + rm.locals ≤ R.locals) (hls : ls.size = nL) (hst : st = As.reverse ++ rest) (hro : (rest.map fun v => v.category).sum ≤ 8) (hd : decode cc pc = .ok (.invokestatic idx, 3)) (hf : cells + mc ≤ R.cells ∧ slots + ms ≤ R.slots) :
    va_Run p l e R s m args below meth c H locs cells slots mc ms (F0 m pc ls st) rest (Qc As.toArray) free := by
  obtain ⟨hx, hb, hml, hown, hts, hT, hA, hlk⟩ := C0
  obtain ⟨w1, w4, w5, w6⟩ := cw
  refine va_runSN ⟨hx, hb, hml, hown, hts⟩ hM ⟨va_cnB na hts (gW (gC w5)) rfl hrm.1 hrm.2 (hT.2.1 _ w1) (hts _ w4) w6 hR, hts _ hstat, trivial⟩ ⟨hbl, fun U hU hW => ⟨rfl, hB U hU hW⟩⟩ rfl hna hls hst (lv_room hro) hd hf
theorem xrunIN {Qc : Array Value → State → Outcome → State → Prop} {mc ms na : Nat} {B : State → Prop} {rm : Room} {free : Nat → Prop} {host : String} {q : Nat} (C0 : Cx p s m args meth c cc nL own D tA b o n0 A) (hM : Met l y (xW y bytes maxL none) rm (va_Pc (.ref q :: As) B) Qc mc ms free) (hbl : FrameBlind (va_Pc (.ref q :: As) B)) (hB : ∀ U : State, U.heap = H → s.WarmedH U.vm → B U) (cw : CwN own host idx y bytes maxL none na) (hy : y.name = "<init>") (hin : Cond.instanceMethod y ∈ WALL) (hrm : rm.cells = mc ∧ rm.slots = ms) (hna : As.length = na) (hR : rm.frames + 1 ≤ R.frames ∧ 8 + (maxL + 11) + rm.locals ≤ R.locals) (hls : ls.size = nL) (hst : st = As.reverse ++ .ref q :: rest) (hro : (rest.map fun v => v.category).sum ≤ 8) (hd : decode cc pc = .ok (.invokespecial idx, 3)) (hf : cells + mc ≤ R.cells ∧ slots + ms ≤ R.slots) :
    va_Run p l e R s m args below meth c H locs cells slots mc ms (F0 m pc ls st) rest (Qc (Value.ref q :: As).toArray) free := by
  obtain ⟨hx, hb, hml, hown, hts, hT, hA, hlk⟩ := C0
  obtain ⟨w1, w4, w5, w6⟩ := cw
  refine va_runIN ⟨hx, hb, hml, hown, hts⟩ hM ⟨va_cnB na hts (gW (gC w5)) rfl hrm.1 hrm.2 (hT.2.1 _ w1) (hts _ w4) w6 hR, hy, hts _ hin⟩ ⟨hbl, fun U hU hW => ⟨rfl, hB U hU hW⟩⟩ rfl hna hls hst (lv_room hro) hd hf
theorem xrunI {Qc : Array Value → State → Outcome → State → Prop} {mc ms na : Nat} {B : State → Prop} {rm : Room} {free : Nat → Prop} {q : Nat} (C0 : Cx p s m args meth c cc nL own D tA b o n0 A) (hM : Met l y (xW y bytes maxL none) rm (va_Pc (.ref q :: As) B) Qc mc ms free) (hbl : FrameBlind (va_Pc (.ref q :: As) B)) (hB : ∀ U : State, U.heap = H → s.WarmedH U.vm → B U) (w1 : Cond.methodLink own idx y ∈ WALL) (w4 : Cond.initialized y.cls ∈ WALL) (w5 : Cond.code y bytes maxL none ∈ WALL) (w6 : y.cls ≠ "java/lang/invoke/MethodHandle" ∧ y.cls ≠ "java/lang/invoke/VarHandle" ∧ (parseMethodDescriptor y.desc).map (fun d => d.parameters.length) = some na) (hy : y.name = "<init>") (hin : Cond.instanceMethod y ∈ WALL) (hrm : rm.cells = mc ∧ rm.slots = ms) (hna : As.length = na) (hR : rm.frames + 1 ≤ R.frames ∧ 8 + (maxL + 11) + rm.locals ≤ R.locals) (hls : ls.size = nL) (hst : st = As.reverse ++ .ref q :: rest) (hro : (rest.map fun v => v.category).sum ≤ 8) (hd : decode cc pc = .ok (.invokespecial idx, 3)) (hf : cells + mc ≤ R.cells ∧ slots + ms ≤ R.slots) :
    va_Run p l e R s m args below meth c H locs cells slots mc ms (F0 m pc ls st) rest (Qc (Value.ref q :: As).toArray) free := by
  obtain ⟨hx, hb, hml, hown, hts, hT, hA, hlk⟩ := C0
  refine va_runI ⟨hx, hb, hml, hown, hts⟩ hM (cwI na hts (gW (gC w5)) rfl hrm.1 hrm.2 (hts _ w4) (hts _ w1) (hts _ hin) hy w6 hR) ⟨hbl, fun U hU hW => ⟨rfl, hB U hU hW⟩⟩ rfl hna hls hst (lv_room hro) hd hf
theorem xrecv {k ci N : Nat} {Cn : String} {T : u_T} {ty0 : Nat → FieldType} (C0 : Cx p s m args meth c cc nL own D tA b o n0 A) (hH : Hd D tA b o n z i F G H) (cl : Cl ci Cn T ty0 N) (hk : o ≤ k ∧ k < o + n) (hc : ckd k = ci ∧ cnn k = N) : ∃ cellB : Cell, H[b + k]? = some cellB ∧ cellB.vm.isStatics = false ∧ s.vm.findClass Cn = some cellB.cls := by
  have he : (wl b tA z i F G o n)[k - o]? = some (b + k, .inr (ci, (List.range N).map (xV b z i k))) := by
    rw [wl_at hk, xE_o (by have := cl.2.2.2; omega), hc.1, hc.2]
  exact va_recv C0.2.2.2.2.2.1.1 hH cl.1.1 he
/-- a call of an instance method that gives an int -/
theorem xcVI {post : Int32 → XS → Prop} {na ci N : Nat} {Cn : String} {T : u_T} {ty0 : Nat → FieldType} (k : Nat) (As : List Value) (hM : xMI l y bytes maxL ret fr lo D tA b o n i F G (.ref (b + k) :: As) post) (C0 : Cx p s m args meth c cc nL own D tA b o n A) (hH : Hd D tA b o n zz i F G H) (hS : va_S A s.heap H locs) (cl : Cl ci Cn T ty0 N) (hC : y.cls = Cn) (hk : (o ≤ k ∧ k < o + n) ∧ ckd k = ci ∧ cnn k = N) (cw : CwV own idx y bytes maxL ret na) (hna : As.length = na) (hR : fr + 1 ≤ R.frames ∧ 8 + (maxL + 11) + lo ≤ R.locals) (hls : ls.size = nL) (hst : st = As.reverse ++ .ref (b + k) :: rest) (hro : (rest.map fun v => v.category).sum ≤ 8) (hd : decode cc pc = .ok (.invokevirtual idx, 3)) (hf : cells ≤ R.cells ∧ slots ≤ R.slots)
    (kk : ∀ (r : Int32) (i F : Nat → Nat → Int32) (G : Nat → Nat → Int64) (H : Heap) (locs : List Loc), post r (i, F, G) → Hd D tA b o n zz i F G H → va_S A s.heap H locs → W p l e R s m args below meth c H locs cells slots Q (F0 m (pc + 3) ls (.int r :: rest))) : W p l e R s m args below meth c H locs cells slots Q (F0 m pc ls st) := by
  refine va_calli (A1 := xA b o n) (xrunV C0 (by rw [hC]; exact xrecv C0 hH cl hk.1 hk.2) hM xfb (fun U hU hW => ⟨by rw [hU]; exact hH, cxtk C0 hS hU hW⟩) cw ⟨rfl, rfl⟩ hna hR hls hst hro hd hf) hS (fun q _ h => by obtain ⟨h1, h2⟩ := h; have := C0.2.2.2.2.2.2.1 (q - b) ⟨by omega, by omega⟩; rwa [show b + (q - b) = q by omega] at this) (fun q h => by obtain ⟨h1, h2⟩ := h; have := C0.2.2.2.2.2.2.1 (q - b) ⟨by omega, by omega⟩; rwa [show b + (q - b) = q by omega] at this) (fun r u t H1 l1 ht _ hp hB _ _ hS1 => ?_)
  obtain ⟨i1, F1, G1⟩ := u
  refine kk r i1 F1 G1 H1 l1 hp ?_ hS1
  rw [← ht]; exact hB
theorem xcVV {post : XS → Prop} {na ci N : Nat} {Cn : String} {T : u_T} {ty0 : Nat → FieldType} (k : Nat) (As : List Value) (hM : xMV l y bytes maxL ret fr lo D tA b o n i F G (.ref (b + k) :: As) post) (C0 : Cx p s m args meth c cc nL own D tA b o n A) (hH : Hd D tA b o n zz i F G H) (hS : va_S A s.heap H locs) (cl : Cl ci Cn T ty0 N) (hC : y.cls = Cn) (hk : (o ≤ k ∧ k < o + n) ∧ ckd k = ci ∧ cnn k = N) (cw : CwV own idx y bytes maxL ret na) (hna : As.length = na) (hR : fr + 1 ≤ R.frames ∧ 8 + (maxL + 11) + lo ≤ R.locals) (hls : ls.size = nL) (hst : st = As.reverse ++ .ref (b + k) :: rest) (hro : (rest.map fun v => v.category).sum ≤ 8) (hd : decode cc pc = .ok (.invokevirtual idx, 3)) (hf : cells ≤ R.cells ∧ slots ≤ R.slots)
    (kk : ∀ (i F : Nat → Nat → Int32) (G : Nat → Nat → Int64) (H : Heap) (locs : List Loc), post (i, F, G) → Hd D tA b o n zz i F G H → va_S A s.heap H locs → W p l e R s m args below meth c H locs cells slots Q (F0 m (pc + 3) ls rest)) : W p l e R s m args below meth c H locs cells slots Q (F0 m pc ls st) := by
  refine va_callv (A1 := xA b o n) (xrunV C0 (by rw [hC]; exact xrecv C0 hH cl hk.1 hk.2) hM xfb (fun U hU hW => ⟨by rw [hU]; exact hH, cxtk C0 hS hU hW⟩) cw ⟨rfl, rfl⟩ hna hR hls hst hro hd hf) hS (fun q _ h => by obtain ⟨h1, h2⟩ := h; have := C0.2.2.2.2.2.2.1 (q - b) ⟨by omega, by omega⟩; rwa [show b + (q - b) = q by omega] at this) (fun q h => by obtain ⟨h1, h2⟩ := h; have := C0.2.2.2.2.2.2.1 (q - b) ⟨by omega, by omega⟩; rwa [show b + (q - b) = q by omega] at this) (fun u t H1 l1 ht _ hp hB _ _ hS1 => ?_)
  obtain ⟨i1, F1, G1⟩ := u
  refine kk i1 F1 G1 H1 l1 hp ?_ hS1
  rw [← ht]; exact hB
theorem xcSI {post : Int32 → XS → Prop} {na : Nat} (As : List Value) (hM : xMI l y bytes maxL ret fr lo D tA b o n i F G As post) (C0 : Cx p s m args meth c cc nL own D tA b o n A) (hH : Hd D tA b o n zz i F G H) (hS : va_S A s.heap H locs) (cw : CwS own idx y bytes maxL ret na) (hna : As.length = na) (hR : fr + 1 ≤ R.frames ∧ 8 + (maxL + 11) + lo ≤ R.locals) (hls : ls.size = nL) (hst : st = As.reverse ++ rest) (hro : (rest.map fun v => v.category).sum ≤ 8) (hd : decode cc pc = .ok (.invokestatic idx, 3)) (hf : cells ≤ R.cells ∧ slots ≤ R.slots)
    (kk : ∀ (r : Int32) (i F : Nat → Nat → Int32) (G : Nat → Nat → Int64) (H : Heap) (locs : List Loc), post r (i, F, G) → Hd D tA b o n zz i F G H → va_S A s.heap H locs → W p l e R s m args below meth c H locs cells slots Q (F0 m (pc + 3) ls (.int r :: rest))) : W p l e R s m args below meth c H locs cells slots Q (F0 m pc ls st) := by
  refine va_calli (A1 := xA b o n) (xrunS C0 hM xfb (fun U hU hW => ⟨by rw [hU]; exact hH, cxtk C0 hS hU hW⟩) cw ⟨rfl, rfl⟩ hna hR hls hst hro hd hf) hS (fun q _ h => by obtain ⟨h1, h2⟩ := h; have := C0.2.2.2.2.2.2.1 (q - b) ⟨by omega, by omega⟩; rwa [show b + (q - b) = q by omega] at this) (fun q h => by obtain ⟨h1, h2⟩ := h; have := C0.2.2.2.2.2.2.1 (q - b) ⟨by omega, by omega⟩; rwa [show b + (q - b) = q by omega] at this) (fun r u t H1 l1 ht _ hp hB _ _ hS1 => ?_)
  obtain ⟨i1, F1, G1⟩ := u
  refine kk r i1 F1 G1 H1 l1 hp ?_ hS1
  rw [← ht]; exact hB
theorem xcSL {post : Int64 → XS → Prop} {na : Nat} (As : List Value) (hM : xML l y bytes maxL ret fr lo D tA b o n i F G As post) (C0 : Cx p s m args meth c cc nL own D tA b o n A) (hH : Hd D tA b o n zz i F G H) (hS : va_S A s.heap H locs) (cw : CwS own idx y bytes maxL ret na) (hna : As.length = na) (hR : fr + 1 ≤ R.frames ∧ 8 + (maxL + 11) + lo ≤ R.locals) (hls : ls.size = nL) (hst : st = As.reverse ++ rest) (hro : (rest.map fun v => v.category).sum ≤ 8) (hd : decode cc pc = .ok (.invokestatic idx, 3)) (hf : cells ≤ R.cells ∧ slots ≤ R.slots)
    (kk : ∀ (r : Int64) (i F : Nat → Nat → Int32) (G : Nat → Nat → Int64) (H : Heap) (locs : List Loc), post r (i, F, G) → Hd D tA b o n zz i F G H → va_S A s.heap H locs → W p l e R s m args below meth c H locs cells slots Q (F0 m (pc + 3) ls (.long r :: rest))) : W p l e R s m args below meth c H locs cells slots Q (F0 m pc ls st) := by
  refine va_calll (A1 := xA b o n) (xrunS C0 hM xfb (fun U hU hW => ⟨by rw [hU]; exact hH, cxtk C0 hS hU hW⟩) cw ⟨rfl, rfl⟩ hna hR hls hst hro hd hf) hS (fun q _ h => by obtain ⟨h1, h2⟩ := h; have := C0.2.2.2.2.2.2.1 (q - b) ⟨by omega, by omega⟩; rwa [show b + (q - b) = q by omega] at this) (fun q h => by obtain ⟨h1, h2⟩ := h; have := C0.2.2.2.2.2.2.1 (q - b) ⟨by omega, by omega⟩; rwa [show b + (q - b) = q by omega] at this) (fun r u t H1 l1 ht _ hp hB _ _ hS1 => ?_)
  obtain ⟨i1, F1, G1⟩ := u
  refine kk r i1 F1 G1 H1 l1 hp ?_ hS1
  rw [← ht]; exact hB
theorem xcNI {post : Int32 → XS → Prop} {na : Nat} {host : String} (As : List Value) (hM : xMI l y bytes maxL ret fr lo D tA b o n i F G As post) (C0 : Cx p s m args meth c cc nL own D tA b o n A) (hH : Hd D tA b o n zz i F G H) (hS : va_S A s.heap H locs) (cw : CwN own host idx y bytes maxL ret na) (hstat : Cond.static y ∈ WALL) (hna : As.length = na) (hR : fr + 1 ≤ R.frames ∧ 8 + (maxL + 11) + lo ≤ R.locals) (hls : ls.size = nL) (hst : st = As.reverse ++ rest) (hro : (rest.map fun v => v.category).sum ≤ 8) (hd : decode cc pc = .ok (.invokestatic idx, 3)) (hf : cells ≤ R.cells ∧ slots ≤ R.slots)
    (kk : ∀ (r : Int32) (i F : Nat → Nat → Int32) (G : Nat → Nat → Int64) (H : Heap) (locs : List Loc), post r (i, F, G) → Hd D tA b o n zz i F G H → va_S A s.heap H locs → W p l e R s m args below meth c H locs cells slots Q (F0 m (pc + 3) ls (.int r :: rest))) : W p l e R s m args below meth c H locs cells slots Q (F0 m pc ls st) := by
  refine va_calli (A1 := xA b o n) (xrunSN C0 hM xfb (fun U hU hW => ⟨by rw [hU]; exact hH, cxtk C0 hS hU hW⟩) cw hstat ⟨rfl, rfl⟩ hna hR hls hst hro hd hf) hS (fun q _ h => by obtain ⟨h1, h2⟩ := h; have := C0.2.2.2.2.2.2.1 (q - b) ⟨by omega, by omega⟩; rwa [show b + (q - b) = q by omega] at this) (fun q h => by obtain ⟨h1, h2⟩ := h; have := C0.2.2.2.2.2.2.1 (q - b) ⟨by omega, by omega⟩; rwa [show b + (q - b) = q by omega] at this) (fun r u t H1 l1 ht _ hp hB _ _ hS1 => ?_)
  obtain ⟨i1, F1, G1⟩ := u
  refine kk r i1 F1 G1 H1 l1 hp ?_ hS1
  rw [← ht]; exact hB
theorem xcNL {post : Int64 → XS → Prop} {na : Nat} {host : String} (As : List Value) (hM : xML l y bytes maxL ret fr lo D tA b o n i F G As post) (C0 : Cx p s m args meth c cc nL own D tA b o n A) (hH : Hd D tA b o n zz i F G H) (hS : va_S A s.heap H locs) (cw : CwN own host idx y bytes maxL ret na) (hstat : Cond.static y ∈ WALL) (hna : As.length = na) (hR : fr + 1 ≤ R.frames ∧ 8 + (maxL + 11) + lo ≤ R.locals) (hls : ls.size = nL) (hst : st = As.reverse ++ rest) (hro : (rest.map fun v => v.category).sum ≤ 8) (hd : decode cc pc = .ok (.invokestatic idx, 3)) (hf : cells ≤ R.cells ∧ slots ≤ R.slots)
    (kk : ∀ (r : Int64) (i F : Nat → Nat → Int32) (G : Nat → Nat → Int64) (H : Heap) (locs : List Loc), post r (i, F, G) → Hd D tA b o n zz i F G H → va_S A s.heap H locs → W p l e R s m args below meth c H locs cells slots Q (F0 m (pc + 3) ls (.long r :: rest))) : W p l e R s m args below meth c H locs cells slots Q (F0 m pc ls st) := by
  refine va_calll (A1 := xA b o n) (xrunSN C0 hM xfb (fun U hU hW => ⟨by rw [hU]; exact hH, cxtk C0 hS hU hW⟩) cw hstat ⟨rfl, rfl⟩ hna hR hls hst hro hd hf) hS (fun q _ h => by obtain ⟨h1, h2⟩ := h; have := C0.2.2.2.2.2.2.1 (q - b) ⟨by omega, by omega⟩; rwa [show b + (q - b) = q by omega] at this) (fun q h => by obtain ⟨h1, h2⟩ := h; have := C0.2.2.2.2.2.2.1 (q - b) ⟨by omega, by omega⟩; rwa [show b + (q - b) = q by omega] at this) (fun r u t H1 l1 ht _ hp hB _ _ hS1 => ?_)
  obtain ⟨i1, F1, G1⟩ := u
  refine kk r i1 F1 G1 H1 l1 hp ?_ hS1
  rw [← ht]; exact hB
/-- newarray: the next cell of the table -/
theorem xnewa {N t : Nat} {atype : ArrayType} {ty : FieldType} (C0 : Cx p s m args meth c cc nL own D tA b o n0 A) (hn : n + 1 ≤ n0) (hH : Hd D tA b o n z i F G H) (hsz : H.size = b + (o + n)) (hS : va_S A H0 H locs) (harr : Cond.arrayClass (newarray.typeOf atype) ∈ WALL) (hty : newarray.typeOf atype = ty) (hc : ckd (o + n) = 50 + t ∧ cnn (o + n) = N) (ht : (tyA tA)[t]? = some (tA t, ty) ∧ ty ≠ .object "" ∧ (match ty with | .object _ => False | _ => True)) (h0 : ∀ cA : ClassId, vp_cell cA (if t = 3 then (N, .inr (.inl (G (o + n)))) else (N, .inl (F (o + n)))) = arrV cA N (fun _ => defaultValue ty)) {x : Int32} (hx0 : ¬ x < 0 ∧ x.toNatClampNeg = N) (hby : N * componentBytes ty ≤ 536870912) (hcs : cells + 1 ≤ R.cells ∧ slots + N ≤ R.slots) (ht4 : t < 4) (hd : decode cc pc = .ok (.newarray atype, 2))
    (kk : ∀ H : Heap, Hd D tA b o (n + 1) z i F G H → H.size = b + (o + (n + 1)) → va_S A H0 H locs → W p l e R s m args below meth c H locs (cells + 1) (slots + N) Q (F0 m (pc + 2) ls (.ref (b + (o + n)) :: rest))) : W p l e R s m args below meth c H locs cells slots Q (F0 m pc ls (.int x :: rest)) := by
  obtain ⟨hx, hb, hml, hown, hts, hT, hA, hlk⟩ := C0
  subst hty
  refine va_newaK hx hb (hts _ harr) rfl hd rfl hx0.1 hx0.2 hby hcs.1 hcs.2 hsz fun H1 cA e1 z1 o1 hAr hNm => ?_
  have hcA : cA = tA t := by
    have h1 := (hT.1.2 t _ ht.1).2
    have h2 := ht.2.2
    cases atype <;> exact Option.some.inj (hNm.symm.trans h1)
  refine kk H1 ?_ (by omega) ⟨Nat.le_trans hS.1 (by omega), fun q h1 h2 => (o1 q (by have := hS.1; omega)).trans (hS.2.1 q h1 h2), hS.2.2⟩
  intro k q hq
  have hl : k < n + 1 := by have := (List.getElem?_eq_some_iff.mp hq).1; simpa [wl] using this
  have h9 := wl_at (b := b) (tA := tA) (z := z) (i := i) (F := F) (G := G) (o := o) (n := n + 1) (k := o + k) (by omega)
  rw [show o + k - o = k by omega, hq] at h9
  obtain rfl := Option.some.inj h9
  by_cases hk : k < n
  · have h8 := wl_at (b := b) (tA := tA) (z := z) (i := i) (F := F) (G := G) (o := o) (n := n) (k := o + k) (by omega)
    exact (hH _ _ h8).kept (o1 _ (by show b + (o + k) < _; omega))
  · have hk : k = n := by omega
    subst hk
    have he : xE b tA z i F G (o + k) = .inl (tA t, if t = 3 then (N, .inr (.inl (G (o + k)))) else (N, .inl (F (o + k)))) := by
      by_cases h3 : t = 3
      · subst h3
        rw [xE_l hc.1, hc.2]; rfl
      · rw [xE_a (by omega) (by omega), hc.1, hc.2, show 50 + t - 50 = t by omega, if_neg h3]
    show va_at D vwCl (b + (o + k), xE b tA z i F G (o + k)) H1
    rw [he]
    show H1[b + (o + k)]? = some (vp_cell _ _)
    rw [h0, ← hcA]
    exact e1
/-- new: the next cell of the table -/
theorem xnewo {N idx ci : Nat} {Cn : String} {T : u_T} {ty0 : Nat → FieldType} (C0 : Cx p s m args meth c cc nL own D tA b o n0 A) (hn : n + 1 ≤ n0) (hH : Hd D tA b o n z i F G H) (hsz : H.size = b + (o + n)) (hS : va_S A H0 H locs) (cl : Cl ci Cn T ty0 N) (hcl : Cond.classLink own idx Cn ∈ WALL) (hinst : Cond.instantiable Cn N ∈ WALL) (hini : Cond.initialized Cn ∈ WALL) (hc : ckd (o + n) = ci ∧ cnn (o + n) = N) (h0 : ∀ j, j < N → defaultValue (ty0 j) = xV b z i (o + n) j) (hcs : cells + 1 ≤ R.cells ∧ slots + N ≤ R.slots) (hd : decode cc pc = .ok (.new idx, 3))
    (kk : ∀ H : Heap, Hd D tA b o (n + 1) z i F G H → H.size = b + (o + (n + 1)) → va_S A H0 H locs → W p l e R s m args below meth c H locs (cells + 1) (slots + N) Q (F0 m (pc + 3) ls (.ref (b + (o + n)) :: rest))) : W p l e R s m args below meth c H locs cells slots Q (F0 m pc ls rest) := by
  obtain ⟨hx, hb, hml, hown, hts, hT, hA, hlk⟩ := C0
  obtain ⟨cl, ct1, ct2, h3⟩ := cl
  have hKn := hT.1.1 ci _ cl.1
  refine W.newcK hx hb hown (hts _ hcl) (hts _ hinst) (hts _ hini) rfl hd hcs.1 hcs.2 hKn.2.1 hsz fun H1 kC hkC e1 z1 o1 => ?_
  refine kk H1 ?_ (by omega) ⟨Nat.le_trans hS.1 (by omega), fun q h1 h2 => (o1 q (by have := hS.1; omega)).trans (hS.2.1 q h1 h2), hS.2.2⟩
  intro k q hq
  have hl : k < n + 1 := by have := (List.getElem?_eq_some_iff.mp hq).1; simpa [wl] using this
  have h9 := wl_at (b := b) (tA := tA) (z := z) (i := i) (F := F) (G := G) (o := o) (n := n + 1) (k := o + k) (by omega)
  rw [show o + k - o = k by omega, hq] at h9
  obtain rfl := Option.some.inj h9
  by_cases hk : k < n
  · have h8 := wl_at (b := b) (tA := tA) (z := z) (i := i) (F := F) (G := G) (o := o) (n := n) (k := o + k) (by omega)
    exact (hH _ _ h8).kept (o1 _ (by show b + (o + k) < _; omega))
  · have hk : k = n := by omega
    subst hk
    show va_at D vwCl (b + (o + k), xE b tA z i F G (o + k)) H1
    rw [xE_o (by omega), hc.1, hc.2]
    refine ⟨_, cl.1, (u_born ty0 hts cl.2 hKn hkC e1 ct1).to (fun j hj => ?_)⟩
    rw [h0 j hj]
    simp [vp_V, hj]
end XC
/-! constructors: from n cells to n2 -/
abbrev xMC (l : Launch) (y : MethodName) (cc : ByteArray) (nL : Nat) (fr lo mc ms : Nat) (D : va_G) (tA : Nat → ClassId) (b o n : Nat) (z : Nat → Nat → Bool) (i F : Nat → Nat → Int32) (G : Nat → Nat → Int64) (k n2 : Nat) (z2 : Nat → Nat → Bool) (i2 F2 : Nat → Nat → Int32) : Prop := Met l y (xW y cc nL none) { frames := fr, cells := mc, slots := ms, locals := lo } (va_Pc [.ref (b + k)] (fun U => Hd D tA b o n z i F G U.heap ∧ U.heap.size = b + (o + n) ∧ TK D tA b U)) (va_Qv (fun _ : Unit => True) (fun _ t => Hd D tA b o n2 z2 i2 F2 G t.heap ∧ t.heap.size = b + (o + n2)) (xA b o n2)) mc ms (xA b o n2)
def Fr (n : Nat) (z : Nat → Nat → Bool) (i F : Nat → Nat → Int32) (G : Nat → Nat → Int64) : Prop := ∀ k, n ≤ k → ∀ j, z k j = true ∧ i k j = 0 ∧ F k j = 0 ∧ G k j = 0
theorem Fr.up {n n2 : Nat} {z : Nat → Nat → Bool} {i F : Nat → Nat → Int32} {G : Nat → Nat → Int64} (h : Fr n z i F G) (hn : n ≤ n2) : Fr n2 z i F G := fun k hk => h k (Nat.le_trans hn hk)
theorem Fr.z {n a c : Nat} {z : Nat → Nat → Bool} {i F : Nat → Nat → Int32} {G : Nat → Nat → Int64} (h : Fr n z i F G) (ha : a < n) : Fr n (upz z a c) i F G := fun k hk j => by
  have := h k hk j
  refine ⟨?_, this.2⟩
  unfold upz
  rw [if_neg (by omega)]
  exact this.1
theorem Fr.i {n a c : Nat} {x : Int32} {z : Nat → Nat → Bool} {i F : Nat → Nat → Int32} {G : Nat → Nat → Int64} (h : Fr n z i F G) (ha : a < n) : Fr n z (up2 i a c x) F G := fun k hk j => by
  have := h k hk j
  exact ⟨this.1, by rw [up2_k (by omega)]; exact this.2.1, this.2.2⟩
theorem Fr.f {n a : Nat} {g : Nat → Int32} {z : Nat → Nat → Bool} {i F : Nat → Nat → Int32} {G : Nat → Nat → Int64} (h : Fr n z i F G) (ha : a < n) : Fr n z i (va_up F a g) G := fun k hk j => by
  have := h k hk j
  exact ⟨this.1, this.2.1, by rw [va_up_ne _ _ (by omega)]; exact this.2.2.1, this.2.2.2⟩
theorem Fr.aI {n t N : Nat} {ty : FieldType} {z : Nat → Nat → Bool} {i F : Nat → Nat → Int32} {G : Nat → Nat → Int64} (h : Fr n z i F G) (ht : t ≠ 3) (hd : defaultValue ty = .int 0) : ∀ cA : ClassId, vp_cell cA (if t = 3 then (N, .inr (.inl (G n))) else (N, .inl (F n))) = arrV cA N (fun _ => defaultValue ty) := fun cA => by
  rw [if_neg ht, vp_cell_i, hd]
  congr 1
  funext j
  rw [(h n (Nat.le_refl n) j).2.2.1]
theorem Fr.aJ {n N : Nat} {z : Nat → Nat → Bool} {i F : Nat → Nat → Int32} {G : Nat → Nat → Int64} (h : Fr n z i F G) : ∀ cA : ClassId, vp_cell cA (if 3 = 3 then (N, .inr (.inl (G n))) else (N, .inl (F n))) = arrV cA N (fun _ => defaultValue .long) := fun cA => by
  rw [if_pos rfl, vp_cell_l]
  congr 1
  funext j
  rw [(h n (Nat.le_refl n) j).2.2.2]
  rfl
theorem Fr.o {n N b : Nat} {ty0 : Nat → FieldType} {z : Nat → Nat → Bool} {i F : Nat → Nat → Int32} {G : Nat → Nat → Int64} (h : Fr n z i F G) (ht : ∀ j, j < N → defaultValue (ty0 j) = if rtt n j = 0 then .int 0 else .null) : ∀ j, j < N → defaultValue (ty0 j) = xV b z i n j := fun j hj => by
  have := h n (Nat.le_refl n) j
  rw [ht j hj]
  unfold xV
  rw [this.1, this.2.1]
  by_cases q : rtt n j = 0
  · rw [if_pos q, if_pos q]
  · rw [if_neg q, if_neg q, if_pos rfl]
section XK
variable {p : Program} {l : Launch} {e : Env} {R : Room} {s : State} {m : MethodId} {args : Array Value} {below : List Frame} {meth : Method} {c : Code} {H : Heap} {locs : List Loc} {cells slots : Nat} {Q : State → Prop}
variable {cc : ByteArray} {nL : Nat} {own : String} {D : va_G} {tA : Nat → ClassId} {b o n n0 : Nat} {A : Nat → Prop} {z : Nat → Nat → Bool} {i F : Nat → Nat → Int32} {G : Nat → Nat → Int64} {pc : Nat} {ls : Array Slot} {rest : List Value} {H0 : Heap}
variable {y : MethodName} {bytes : ByteArray} {maxL fr lo idx mc ms n2 : Nat} {st : List Value} {z2 : Nat → Nat → Bool} {i2 F2 : Nat → Nat → Int32}
theorem xcfb {k : Nat} : FrameBlind (va_Pc [.ref (b + k)] (fun U => Hd D tA b o n z i F G U.heap ∧ U.heap.size = b + (o + n) ∧ TK D tA b U)) := fun _ _ _ _ h => ⟨h.1, h.2.1, h.2.2.1, h.2.2.2.calling⟩
theorem xcIN {host : String} (k : Nat) (hM : xMC l y bytes maxL fr lo mc ms D tA b o n z i F G k n2 z2 i2 F2) (C0 : Cx p s m args meth c cc nL own D tA b o n0 A) (hn : n2 ≤ n0) (hH : Hd D tA b o n z i F G H) (hsz : H.size = b + (o + n)) (hS : va_S A s.heap H locs) (cw : CwN own host idx y bytes maxL none 0) (hy : y.name = "<init>") (hin : Cond.instanceMethod y ∈ WALL) (hR : fr + 1 ≤ R.frames ∧ 8 + (maxL + 11) + lo ≤ R.locals) (hls : ls.size = nL) (hst : st = .ref (b + k) :: rest) (hro : (rest.map fun v => v.category).sum ≤ 8) (hd : decode cc pc = .ok (.invokespecial idx, 3)) (hf : cells + mc ≤ R.cells ∧ slots + ms ≤ R.slots)
    (kk : ∀ (H : Heap) (locs : List Loc), Hd D tA b o n2 z2 i2 F2 G H → H.size = b + (o + n2) → va_S A s.heap H locs → W p l e R s m args below meth c H locs (cells + mc) (slots + ms) Q (F0 m (pc + 3) ls rest)) : W p l e R s m args below meth c H locs cells slots Q (F0 m pc ls st) := by
  have hAA : ∀ q, xA b o n2 q → A q := fun q h => by obtain ⟨h1, h2⟩ := h; have := C0.2.2.2.2.2.2.1 (q - b) ⟨by omega, by omega⟩; rwa [show b + (q - b) = q by omega] at this
  refine va_callv (A1 := xA b o n2) (xrunIN (As := []) C0 hM xcfb (fun U hU hW => ⟨by rw [hU]; exact hH, by rw [hU]; exact hsz, cxtk C0 hS hU hW⟩) cw hy hin ⟨rfl, rfl⟩ rfl hR hls hst hro hd hf) hS (fun q _ h => hAA q h) (fun q h => hAA q h) (fun u t H1 l1 ht _ hp hB _ _ hS1 => ?_)
  exact kk H1 l1 (by rw [← ht]; exact hB.1) (by rw [← ht]; exact hB.2) hS1
theorem xcI (k : Nat) (hM : xMC l y bytes maxL fr lo mc ms D tA b o n z i F G k n2 z2 i2 F2) (C0 : Cx p s m args meth c cc nL own D tA b o n0 A) (hn : n2 ≤ n0) (hH : Hd D tA b o n z i F G H) (hsz : H.size = b + (o + n)) (hS : va_S A s.heap H locs) (w1 : Cond.methodLink own idx y ∈ WALL) (w4 : Cond.initialized y.cls ∈ WALL) (w5 : Cond.code y bytes maxL none ∈ WALL) (w6 : y.cls ≠ "java/lang/invoke/MethodHandle" ∧ y.cls ≠ "java/lang/invoke/VarHandle" ∧ (parseMethodDescriptor y.desc).map (fun d => d.parameters.length) = some 0) (hy : y.name = "<init>") (hin : Cond.instanceMethod y ∈ WALL) (hR : fr + 1 ≤ R.frames ∧ 8 + (maxL + 11) + lo ≤ R.locals) (hls : ls.size = nL) (hst : st = .ref (b + k) :: rest) (hro : (rest.map fun v => v.category).sum ≤ 8) (hd : decode cc pc = .ok (.invokespecial idx, 3)) (hf : cells + mc ≤ R.cells ∧ slots + ms ≤ R.slots)
    (kk : ∀ (H : Heap) (locs : List Loc), Hd D tA b o n2 z2 i2 F2 G H → H.size = b + (o + n2) → va_S A s.heap H locs → W p l e R s m args below meth c H locs (cells + mc) (slots + ms) Q (F0 m (pc + 3) ls rest)) : W p l e R s m args below meth c H locs cells slots Q (F0 m pc ls st) := by
  have hAA : ∀ q, xA b o n2 q → A q := fun q h => by obtain ⟨h1, h2⟩ := h; have := C0.2.2.2.2.2.2.1 (q - b) ⟨by omega, by omega⟩; rwa [show b + (q - b) = q by omega] at this
  refine va_callv (A1 := xA b o n2) (xrunI (As := []) C0 hM xcfb (fun U hU hW => ⟨by rw [hU]; exact hH, by rw [hU]; exact hsz, cxtk C0 hS hU hW⟩) w1 w4 w5 w6 hy hin ⟨rfl, rfl⟩ rfl hR hls hst hro hd hf) hS (fun q _ h => hAA q h) (fun q h => hAA q h) (fun u t H1 l1 ht _ hp hB _ _ hS1 => ?_)
  exact kk H1 l1 (by rw [← ht]; exact hB.1) (by rw [← ht]; exact hB.2) hS1
theorem xcret (C0 : Cx p s m args meth c cc nL own D tA b o n0 A) (hr : meth.sig.returnType = none) (hH : Hd D tA b o n z i F G H) (hsz : H.size = b + (o + n)) (hS : va_S A s.heap H locs) (hd : decode cc pc = .ok (.return_, 1)) : W p l e R s m args below meth c H locs cells slots (MQ below (va_Qv (fun _ : Unit => True) (fun _ t => Hd D tA b o n z i F G t.heap ∧ t.heap.size = b + (o + n)) A) args s cells slots A) (F0 m pc ls []) :=
  W.vret C0.1 C0.2.1 hr (fun t ht _ => ⟨⟨(), rfl, trivial, by rw [ht]; exact hH, by rw [ht]; exact hsz⟩, hS.F ht⟩) hS.2.2 hd (hlocks := C0.2.2.2.2.2.2.2.1)
theorem xobj (C0 : Cx p s m args meth c cc nL own D tA b o n0 A) (w1 : Cond.methodLink own idx objectInit ∈ WALL) (w2 : Cond.instanceMethod objectInit ∈ WALL) (w3 : Cond.code objectInit ⟨#[0xb1]⟩ 1 none ∈ WALL) {q : Nat} (hls : ls.size = nL) (hd : decode cc pc = .ok (.invokespecial idx, 3)) (hR : 1 ≤ R.frames ∧ 12 ≤ R.locals) (kk : W p l e R s m args below meth c H locs cells slots Q (F0 m (pc + 3) ls [])) : W p l e R s m args below meth c H locs cells slots Q (F0 m pc ls [.ref q]) := by
  obtain ⟨hx, hb, hml, hown, hts, hT, hA, hlk⟩ := C0
  exact W.objInit hx hb hown (hts _ w1) (hts _ w2) (hts _ w3) rfl (by rw [hml]; exact hls) rfl hd hR.1 (by show 0 + 0 + 12 ≤ _; exact hR.2) kk
end XK
theorem vin {x : Int32} {n : Nat} (h : ¬ (x < 0 ∨ n ≤ x.toNatClampNeg)) : vp_in x n := h
theorem upz_zz {k j : Nat} : upz zz k j = zz := by funext a c; simp [upz, zz]
