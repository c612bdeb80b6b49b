def NC : Nat := 130
def ckL : List Nat := [9, 1, 53, 50, 6, 51, 6, 51, 4, 7, 50, 50, 50, 50, 50, 50, 52, 8, 0, 50, 50, 50, 50, 50, 50, 50, 50, 50, 2, 50, 50, 50, 50, 50, 50, 50, 50, 52, 50, 4, 7, 50, 50, 50, 50, 50, 50, 52, 8, 0, 50, 50, 50, 50, 50, 50, 50, 50, 50, 2, 50, 50, 50, 50, 50, 50, 50, 50, 52, 50, 5, 50, 50, 3, 51, 3, 51, 50, 10, 53, 50, 50, 50, 53, 50, 51, 51, 50, 50, 50, 50, 50, 50, 52, 53, 50, 50, 50, 50, 50, 50, 50, 50, 50, 50, 50, 50, 50, 50, 50, 50, 50, 50, 50, 51, 51, 50, 50, 50, 50, 50, 52, 50, 50, 50, 50, 50, 50, 50, 50]
def cnL : List Nat := [14, 8, 24, 24, 2, 600, 2, 600, 6, 14, 600, 600, 600, 600, 600, 600, 600, 10, 10, 601, 601, 601, 601, 601, 601, 601, 601, 601, 9, 1200, 1200, 1200, 1200, 1200, 1201, 1201, 600, 600, 601, 6, 14, 600, 600, 600, 600, 600, 600, 600, 10, 10, 601, 601, 601, 601, 601, 601, 601, 601, 601, 9, 1200, 1200, 1200, 1200, 1200, 1201, 1201, 600, 600, 601, 4, 601, 1200, 3, 4000, 3, 4000, 200, 79, 8, 8, 4, 4, 4, 4, 600, 600, 4, 600, 600, 600, 600, 600, 600, 600, 600, 601, 601, 1202, 1202, 1202, 1202, 1202, 1202, 1202, 1202, 1202, 1202, 1202, 1202, 1202, 1802, 1802, 1202, 4000, 4000, 1202, 1202, 1202, 1202, 1202, 1202, 600, 600, 600, 1202, 1202, 1202, 2, 200]
def rtL : List (List Nat) := [[1, 4, 6, 8, 39, 70, 1000, 1000, 0, 0, 0, 0, 77, 0], [2, 3, 0, 0, 0, 0, 0, 0], [], [], [5, 0], [], [7, 0], [], [9, 17, 0, 0, 0, 0], [10, 11, 12, 13, 14, 15, 16, 0, 0, 0, 0, 0, 0, 0], [], [], [], [], [], [], [], [18, 28, 36, 37, 0, 0, 38, 0, 0, 0], [19, 20, 21, 22, 23, 24, 25, 26, 27, 0], [], [], [], [], [], [], [], [], [], [29, 30, 31, 32, 33, 0, 34, 35, 0], [], [], [], [], [], [], [], [], [], [], [40, 48, 0, 0, 0, 0], [41, 42, 43, 44, 45, 46, 47, 0, 0, 0, 0, 0, 0, 0], [], [], [], [], [], [], [], [49, 59, 67, 68, 0, 0, 69, 0, 0, 0], [50, 51, 52, 53, 54, 55, 56, 57, 58, 0], [], [], [], [], [], [], [], [], [], [60, 61, 62, 63, 64, 0, 65, 66, 0], [], [], [], [], [], [], [], [], [], [], [71, 72, 0, 0], [], [], [74, 0, 0], [], [76, 0, 0], [], [], [0, 79, 80, 0, 81, 82, 0, 83, 0, 84, 0, 85, 0, 86, 0, 0, 87, 1000, 0, 0, 88, 89, 90, 91, 92, 93, 94, 95, 96, 97, 0, 0, 0, 98, 99, 100, 101, 102, 103, 104, 0, 105, 106, 107, 108, 109, 110, 0, 111, 112, 113, 0, 0, 114, 0, 115, 0, 116, 117, 118, 119, 120, 121, 0, 0, 0, 0, 0, 0, 122, 123, 124, 125, 126, 127, 128, 0, 129, 0], [], [], [], [], [], [], [], [], [], [], [], [], [], [], [], [], [], [], [], [], [], [], [], [], [], [], [], [], [], [], [], [], [], [], [], [], [], [], [], [], [], [], [], [], [], [], [], [], [], [], []]
/-! THE BASE: one list of words for all methods; one world of NC cells, by tables; rows for the instructions over it. -/
def WALL : List Cond := lw_tbl.filter goodWord
theorem wal_in {w : Cond} (h : w ∈ WALL) : w ∈ lw_tbl := (List.mem_filter.mp h).1
theorem wal_good {w : Cond} (h : w ∈ WALL) : goodWord w = true := (List.mem_filter.mp h).2
theorem wm (i : Nat) {w : Cond} (h : tables_1[i]? = some w) (hg : goodWord w = true) : w ∈ WALL := List.mem_filter.mpr ⟨List.mem_append_right _ (List.mem_of_getElem? h), hg⟩
theorem wms (i : Nat) {w : Cond} (h : (k2_sels lw_privs)[i]? = some w) (hg : goodWord w = true) : w ∈ WALL := List.mem_filter.mpr ⟨List.mem_append_left _ (List.mem_of_getElem? h), hg⟩
theorem gW {ws : List Cond} (h : ∀ w ∈ ws, w ∈ WALL) : GoodIn WALL ws := fun w hw => ⟨h w hw, good_of_word (wal_good (h w hw))⟩
theorem inWs {ws : List Cond} (ps : List Nat) (h : ws = ps.filterMap (fun i => tables_1[i]?)) (hg : ws.all goodWord = true) : ∀ w ∈ ws, w ∈ WALL := fun w hw => by
  have h1 := List.all_eq_true.mp hg w hw
  rw [h] at hw
  obtain ⟨i, -, hi⟩ := List.mem_filterMap.mp hw
  exact wm i hi h1
def isNest : Cond → Bool
  | .methodLinkNest _ _ _ _ => true
  | _ => false
def nestW : List Cond := lw_tbl.filter isNest
theorem nm_ (i : Nat) {w : Cond} (h : tables_1[i]? = some w) (hg : isNest w = true) : w ∈ nestW := List.mem_filter.mpr ⟨List.mem_append_right _ (List.mem_of_getElem? h), hg⟩
def Nst (U : State) : Prop := ∀ w ∈ nestW, va_Nw w U
theorem Nst.warm {s U : State} (hW : s.WarmedH U.vm) (h : Nst s) : Nst U := fun w hw => by
  have h1 := h w hw
  have h2 : isNest w = true := (List.mem_filter.mp hw).2
  cases w <;> simp only [isNest] at h2 <;> first | exact va_Nw.warmM hW h1 | exact absurd h2 (by decide)
theorem Nst.same {s U : State} (hv : s.vm = U.vm) (h : Nst s) : Nst U := fun w hw => by
  have h1 := h w hw
  have h2 : isNest w = true := (List.mem_filter.mp hw).2
  cases w <;> simp only [isNest] at h2 <;> first | exact va_Nw.same rfl hv h1 | exact absurd h2 (by decide)
def ckd (k : Nat) : Nat := ckL.getD k 99
def cnn (k : Nat) : Nat := cnL.getD k 0
def rtt (k j : Nat) : Nat := (rtL.getD k []).getD j 0
def zz : Nat → Nat → Bool := fun _ _ => false
def xV (b : Nat) (z : Nat → Nat → Bool) (i : Nat → Nat → Int32) (k j : Nat) : Value :=
  if rtt k j = 0 then .int (i k j) else if z k j = true then .null else if rtt k j = 1000 then .ref (b + (i k j).toNatClampNeg) else .ref (b + rtt k j)
def xE (b : Nat) (tA : Nat → ClassId) (z : Nat → Nat → Bool) (i : Nat → Nat → Int32) (F : Nat → Nat → Int32) (G : Nat → Nat → Int64) (k : Nat) : va_E :=
  if ckd k < 50 then .inr (ckd k, (List.range (cnn k)).map (xV b z i k))
  else if ckd k = 53 then .inl (tA 3, cnn k, .inr (.inl (G k))) else .inl (tA (ckd k - 50), cnn k, .inl (F k))
def wl (b : Nat) (tA : Nat → ClassId) (z : Nat → Nat → Bool) (i : Nat → Nat → Int32) (F : Nat → Nat → Int32) (G : Nat → Nat → Int64) (o n : Nat) : va_W := (List.range n).map (fun k => (b + (o + k), xE b tA z i F G (o + k)))
def Hd (D : va_G) (tA : Nat → ClassId) (b o n : Nat) (z : Nat → Nat → Bool) (i : Nat → Nat → Int32) (F : Nat → Nat → Int32) (G : Nat → Nat → Int64) (H : Heap) : Prop := va_P D vwCl (wl b tA z i F G o n) H
def tyA (tA : Nat → ClassId) : List (ClassId × FieldType) := [(tA 0, .int), (tA 1, .byte), (tA 2, .boolean), (tA 3, .long)]
def mkTx : String := "!\"$%&()*+,-./:;<=>?\x40[]^_|"
def mkBy : List Int32 := [33, 34, 36, 37, 38, 40, 41, 42, 43, 44, 45, 46, 47, 58, 59, 60, 61, 62, 63, 64, 91, 93, 94, 95, 124]
def Sb (b : Nat) : Nat → Prop := fun q => b ≤ q
/-- the text of the marks, its bytes, and what the JDK's String has: at the cells tA 10, tA 11, below b -/
def SK (tA : Nat → ClassId) (b : Nat) (U : State) (H : Heap) : Prop := vk_S 1 [25] [mkBy] (fun _ => tA 10) (fun _ => tA 11) (Sb b) U H ∧ vk_R "IndentReader" 320 mkTx (tA 10) U ∧ va_Z "java/lang/String" "COMPACT_STRINGS" "Z" (.int 1) (Sb b) U H
theorem SK.kept {tA : Nat → ClassId} {b : Nat} {U : State} {H H1 : Heap} (h : SK tA b U H) (hq : ∀ a : Nat, a < H.size → ¬ Sb b a → H1[a]? = H[a]?) : SK tA b U H1 := ⟨h.1.kept hq, h.2.1, h.2.2.kept hq⟩
theorem SK.warm {tA : Nat → ClassId} {b : Nat} {s U : State} {H : Heap} (hW : s.WarmedH U.vm) (h : SK tA b s H) : SK tA b U H := ⟨h.1.moved hW.alike, h.2.1.warm hW, h.2.2.moved hW.alike⟩
theorem SK.same {tA : Nat → ClassId} {b : Nat} {s U : State} {H : Heap} (hv : U.vm = s.vm) (h : SK tA b s H) : SK tA b U H := ⟨h.1.moved (by rw [hv]; exact Vm.Alike.refl _), h.2.1.same hv, h.2.2.moved (by rw [hv]; exact Vm.Alike.refl _)⟩
def TK (D : va_G) (tA : Nat → ClassId) (b : Nat) (U : State) : Prop := va_K D vwCl (tyA tA) U ∧ Nst U ∧ SK tA b U U.heap
theorem TK.calling {D : va_G} {tA : Nat → ClassId} {b : Nat} {U : State} {g : JFrame} {mk : MethodId} {a : Array Value} (h : TK D tA b U) : TK D tA b (U.calling g mk a) := ⟨va_K.moved (u := U) (U := U.calling g mk a) (Vm.Alike.refl U.vm) h.1, h.2.1.same (s := U) (U := U.calling g mk a) rfl, SK.same (s := U) (U := U.calling g mk a) rfl h.2.2⟩
def xA (b o n : Nat) : Nat → Prop := fun q => b + o ≤ q ∧ q < b + o + n
theorem xA_in {b o n k : Nat} (h : o ≤ k ∧ k < o + n) : xA b o n (b + k) := ⟨by omega, by omega⟩
theorem wl_at {b : Nat} {tA : Nat → ClassId} {z : Nat → Nat → Bool} {i F : Nat → Nat → Int32} {G : Nat → Nat → Int64} {o n k : Nat} (h : o ≤ k ∧ k < o + n) : (wl b tA z i F G o n)[k - o]? = some (b + k, xE b tA z i F G k) := by
  have h1 : k - o < n := by omega
  have h2 : o + (k - o) = k := by omega
  simp [wl, h1, h2]
theorem wl_D {b : Nat} {tA : Nat → ClassId} {z : Nat → Nat → Bool} {i F : Nat → Nat → Int32} {G : Nat → Nat → Int64} {o n : Nat} {A : Nat → Prop} (hA : ∀ k, o ≤ k ∧ k < o + n → A (b + k)) : va_D A (wl b tA z i F G o n) := by
  have key : ∀ (k : Nat) (q : Nat × va_E), (wl b tA z i F G o n)[k]? = some q → k < n ∧ q.1 = b + (o + k) := by
    intro k q h
    have hl : k < (wl b tA z i F G o n).length := (List.getElem?_eq_some_iff.mp h).1
    have hk : k < n := by simpa [wl] using hl
    have h9 := wl_at (b := b) (tA := tA) (z := z) (i := i) (F := F) (G := G) (o := o) (n := n) (k := o + k) (by omega)
    rw [show o + k - o = k by omega, h] at h9
    exact ⟨hk, by rw [Option.some.inj h9]⟩
  refine ⟨fun a c p q h1 h2 e => ?_, fun k q h => ?_⟩
  · have e1 := (key a p h1).2
    have e2 := (key c q h2).2
    omega
  · rw [(key k q h).2]
    exact hA (o + k) (by have := (key k q h).1; omega)
def up2 (i : Nat → Nat → Int32) (k j : Nat) (x : Int32) : Nat → Nat → Int32 := fun a c => if a = k then (if c = j then x else i a c) else i a c
theorem up2_s {i : Nat → Nat → Int32} {k j : Nat} {x : Int32} : up2 i k j x k j = x := by simp [up2]
theorem up2_j {i : Nat → Nat → Int32} {k j a c : Nat} {x : Int32} (h : c ≠ j) : up2 i k j x a c = i a c := by simp [up2, h]
theorem up2_k {i : Nat → Nat → Int32} {k j a c : Nat} {x : Int32} (h : a ≠ k) : up2 i k j x a c = i a c := by simp [up2, h]
theorem wl_set {b : Nat} {tA : Nat → ClassId} {z z' : Nat → Nat → Bool} {i F i' F' : Nat → Nat → Int32} {G G' : Nat → Nat → Int64} {o n k : Nat} {e : va_E} (hok : o ≤ k) (he : e = xE b tA z' i' F' G' k) (hr : ∀ a, a ≠ k → xE b tA z i F G a = xE b tA z' i' F' G' a) : (wl b tA z i F G o n).set (k - o) (b + k, e) = wl b tA z' i' F' G' o n := by
  apply List.ext_getElem?
  intro a
  subst he
  by_cases ha : a < n
  · have e1 := wl_at (b := b) (tA := tA) (z := z) (i := i) (F := F) (G := G) (o := o) (n := n) (k := o + a) (by omega)
    have e2 := wl_at (b := b) (tA := tA) (z := z') (i := i') (F := F') (G := G') (o := o) (n := n) (k := o + a) (by omega)
    rw [show o + a - o = a by omega] at e1 e2
    rw [e2, List.getElem?_set]
    by_cases hk : k - o = a
    · have hk2 : k = o + a := by omega
      subst hk2
      simp [wl, ha]
    · rw [if_neg hk, e1, hr (o + a) (by omega)]
  · have h1 : ((wl b tA z i F G o n).set (k - o) (b + k, xE b tA z' i' F' G' k)).length ≤ a := by simp [wl]; omega
    have h2 : (wl b tA z' i' F' G' o n).length ≤ a := by simp [wl]; omega
    rw [List.getElem?_eq_none h1, List.getElem?_eq_none h2]
theorem rm_set (V V' : Nat → Value) (n j : Nat) (v : Value) (h1 : V' j = v) (h2 : ∀ c, c ≠ j → V' c = V c) : ((List.range n).map V).set j v = (List.range n).map V' := by
  apply List.ext_getElem?
  intro a
  by_cases ha : a < n
  · rw [List.getElem?_set]
    by_cases hk : j = a
    · subst hk
      simp [ha, h1]
    · rw [if_neg hk]
      simp [ha, h2 a (fun q => hk q.symm)]
  · rw [List.getElem?_eq_none (by simp; omega), List.getElem?_eq_none (by simp; omega)]
def Cx (p : Program) (s : State) (m : MethodId) (args : Array Value) (meth : Method) (c : Code) (cc : ByteArray) (nL : Nat) (own : String) (D : va_G) (tA : Nat → ClassId) (b o n : Nat) (A : Nat → Prop) : Prop :=
  p.tables.exec = Jvm.exec ∧ c.code = cc ∧ c.maxLocals = nL ∧ s.vm.findClass own = some m.cls ∧ (∀ w ∈ WALL, w.before args s = true) ∧ TK D tA b s ∧ (∀ k, o ≤ k ∧ k < o + n → A (b + k)) ∧ meth.locks = false ∧ (∀ q, A q → b ≤ q)
section XB
variable {p : Program} {l : Launch} {e : Env} {R : Room} {s : State} {m : MethodId} {args : Array Value} {below : List Frame} {meth : Method} {c : Code} {H : Heap} {locs : List Loc} {cells slots : Nat} {Q : State → Prop}
variable {cc : ByteArray} {nL : Nat} {own : String} {D : va_G} {tA : Nat → ClassId} {b o n : Nat} {A : Nat → Prop} {z : Nat → Nat → Bool} {i F : Nat → Nat → Int32} {G : Nat → Nat → Int64} {pc : Nat} {ls : Array Slot} {rest : List Value} {H0 : Heap}
theorem cxtk {n0 : Nat} (C0 : Cx p s m args meth c cc nL own D tA b o n0 A) (hS : va_S A s.heap H locs) {U : State} (hU : U.heap = H) (hW : s.WarmedH U.vm) : TK D tA b U := by
  obtain ⟨hx, hb, hml, hown, hts, hT, hA, hlk, hAb⟩ := C0
  refine ⟨va_K.moved hW.alike hT.1, hT.2.1.warm hW, SK.warm hW ?_⟩
  rw [hU]
  exact hT.2.2.kept (fun a h1 h2 => hS.2.1 a h1 (fun q => h2 (hAb a q)))
theorem xE_o {k : Nat} (h : ckd k < 50) : xE b tA z i F G k = .inr (ckd k, (List.range (cnn k)).map (xV b z i k)) := by unfold xE; rw [if_pos h]
theorem xE_a {k : Nat} (h : ¬ ckd k < 50) (h2 : ¬ ckd k = 53) : xE b tA z i F G k = .inl (tA (ckd k - 50), cnn k, .inl (F k)) := by unfold xE; rw [if_neg h, if_neg h2]
theorem xE_l {k : Nat} (h2 : ckd k = 53) : xE b tA z i F G k = .inl (tA 3, cnn k, .inr (.inl (G k))) := by unfold xE; rw [if_neg (by omega), if_pos h2]
/-- getfield -/
theorem xget {idx ci N n0 : Nat} {Cn : String} {T : u_T} {ty0 : Nat → FieldType} (C0 : Cx p s m args meth c cc nL own D tA b o n0 A) (hH : Hd D tA b o n z i F G H) (k j : Nat) (cl : (vwCl[ci]? = some (Cn, T, N) ∧ ∀ w ∈ u_ws Cn T N, w ∈ WALL) ∧ (∀ k, k < N → parseFieldDescriptor (T k).2.2.1 = some (ty0 k)) ∧ (∀ a, a < N → ∀ b, b < N → a ≠ b → (T a).2.1 ≠ (T b).2.1) ∧ ci < 50) (hk : o ≤ k ∧ k < o + n) (hc : ckd k = ci ∧ cnn k = N) (hj : j < N) (hl : Cond.fieldLink own idx (T j).1 (T j).2.1 (T j).2.2.1 ∈ WALL) {v : Value} (hv : xV b z i k j = v) (hd : decode cc pc = .ok (.getfield idx, 3))
    (kk : W p l e R s m args below meth c H locs cells slots Q (F0 m (pc + 3) ls (v :: rest))) : W p l e R s m args below meth c H locs cells slots Q (F0 m pc ls (.ref (b + k) :: rest)) := by
  obtain ⟨hx, hb, hml, hown, hts, hT, hA, hlk⟩ := C0
  obtain ⟨h1, h2⟩ := hc
  obtain ⟨cl, -, -, h3⟩ := cl
  have he : (wl b tA z i F G o n)[k - o]? = some (b + k, .inr (ci, (List.range N).map (xV b z i k))) := by
    rw [wl_at hk, xE_o (by omega), h1, h2]
  refine va_get (D := D) (cl := vwCl) (ref := (T j).1) (index := idx) hx hb hts cl.2 hown hT.1 hH (k - o) he cl.1 j hj (hts _ hl) (fun _ h => h) (v := v) ?_ hd kk
  rw [List.getElem?_map, List.getElem?_range hj]
  exact congrArg some hv
/-- what a put needs of the class -/
def Cl (ci : Nat) (Cn : String) (T : u_T) (ty0 : Nat → FieldType) (N : Nat) : Prop := (vwCl[ci]? = some (Cn, T, N) ∧ ∀ w ∈ u_ws Cn T N, w ∈ WALL) ∧ (∀ k, k < N → parseFieldDescriptor (T k).2.2.1 = some (ty0 k)) ∧ (∀ a, a < N → ∀ b, b < N → a ≠ b → (T a).2.1 ≠ (T b).2.1) ∧ ci < 50
/-- putfield, any field that isn't final or is its own constructor's: the world with the new value, the same size -/
theorem xput0 {idx ci N : Nat} {Cn : String} {T : u_T} {ty0 : Nat → FieldType} {n0 : Nat} (C0 : Cx p s m args meth c cc nL own D tA b o n0 A) (hn : n ≤ n0) (hH : Hd D tA b o n z i F G H) (hS : va_S A H0 H locs) (k j : Nat) (cl : Cl ci Cn T ty0 N) (hk : o ≤ k ∧ k < o + n) (hc : ckd k = ci ∧ cnn k = N) (hj : j < N) (hfi : (T j).2.2.2 = false ∨ (T j).2.2.2 = true ∧ meth.name = "<init>" ∧ (T j).1 = own) (hl : Cond.fieldLink own idx (T j).1 (T j).2.1 (T j).2.2.1 ∈ WALL) {v : Value} (hf : narrow (ty0 j) v = v ∧ fits (ty0 j) v = true) {z' : Nat → Nat → Bool} {i' : Nat → Nat → Int32} (e1 : xV b z' i' k j = v) (e2 : ∀ a, a ≠ j → xV b z' i' k a = xV b z i k a) (e3 : ∀ a, a ≠ k → z' a = z a ∧ i' a = i a) (hd : decode cc pc = .ok (.putfield idx, 3))
    (kk : ∀ (H1 : Heap) (locs : List Loc), Hd D tA b o n z' i' F G H1 → va_S A H0 H1 locs → H1.size = H.size → W p l e R s m args below meth c H1 locs cells slots Q (F0 m (pc + 3) ls rest)) : W p l e R s m args below meth c H locs cells slots Q (F0 m pc ls (v :: .ref (b + k) :: rest)) := by
  obtain ⟨hx, hb, hml, hown, hts, hT, hA, hlk⟩ := C0
  obtain ⟨h1, h2⟩ := hc
  obtain ⟨cl, ct1, ct2, h3⟩ := cl
  have hD : va_D A (wl b tA z i F G o n) := wl_D (fun a ha => hA a (by omega))
  have he : (wl b tA z i F G o n)[k - o]? = some (b + k, .inr (ci, (List.range N).map (xV b z i k))) := by
    rw [wl_at hk, xE_o (by omega), h1, h2]
  have hok : o ≤ k := hk.1
  have hset : (wl b tA z i F G o n).set (k - o) (b + k, .inr (ci, ((List.range N).map (xV b z i k)).set j v)) = wl b tA z' i' F G o n := by
    refine wl_set hok ?_ (fun a ha => ?_)
    · rw [xE_o (by omega), h1, h2]
      congr 2
      exact rm_set _ _ _ _ _ e1 e2
    · have q := e3 a ha
      unfold xE
      have : xV b z i a = xV b z' i' a := by funext c; unfold xV; rw [q.1, q.2]
      rw [this]
  have hap := va_apart (own := own) hts cl.2 ty0 ct1 ct2 hT.1 cl.1
  obtain ⟨r, g1, cell, q1, q2, q3, q4⟩ := hH (k - o) _ he
  have hr : r = (Cn, T, N) := Option.some.inj (g1.symm.trans cl.1)
  subst hr
  obtain ⟨hSl, hfc, kC, hkC, hkind⟩ := hT.1.1 ci _ cl.1
  obtain ⟨cf, kf, fi, f, hi, hsl⟩ := hSl j hj
  have hlay := hts _ (cl.2 _ (u_in_lay hj))
  have hst := (u_facts hfc hkC (u_lays hts cl.2 hj) hi).1
  have fin : ∀ H' : Heap, H'[b + k]? = some (cell.setSlot f.slot v) → H'.size = H.size → (∀ q, q ≠ b + k → H'[q]? = H[q]?) → W p l e R s m args below meth c H' (locs ++ [⟨b + k, f.slot⟩]) cells slots Q (F0 m (pc + 3) ls rest) := by
    intro H' w1 w2 w3
    rw [hsl] at w1 ⊢
    have hP' := hH.set hD he (e := .inr (ci, ((List.range N).map (xV b z i k)).set j v)) ⟨_, cl.1, t_OB.to (V := updV (vp_V ((List.range N).map (xV b z i k))) j v) ⟨_, w1, q2, q3, t_set q4 hap hj v⟩ (fun a _ => vp_updV_set (by simpa using hj) v a)⟩ w3
    rw [hset] at hP'
    exact kk H' _ hP' (hS.put w2 w3 (hD.2 (k - o) _ he)) w2
  unfold u_lay at hlay
  rcases hfi with hfin | ⟨hfin, hin2, hdecl⟩
  · rw [if_neg (by rw [hfin]; decide)] at hlay
    have h6 := u_store hfc hkC hkind hlay hi (ct1 j hj) hf.1 hf.2
    exact W.putK hx hb (f := f) ⟨hown, hts _ hl, ⟨_, _, _, hi⟩, hst⟩ (by rw [q2]; exact h6) q1 q3 (by rw [hsl]; exact k2_hasslot (q4 j hj)) rfl rfl hd fin
  · rw [if_pos hfin] at hlay
    have hcf : m.cls = cf := by
      obtain ⟨_, _, c', _, _, _, -, -, hf', -, -, -, hown2, -⟩ := Cond.laysFinal_spec hlay
      have w1 : c' = cf := by have := hi.symm.trans hf'; simp at this; exact this.1.symm
      rw [hdecl] at hown2
      rw [← w1]; exact Option.some.inj (hown.symm.trans hown2)
    have h6 := u_fits hfc hkC hkind (Or.inr hlay) hi (ct1 j hj) hf.1 hf.2
    exact W.putFinK hx hb hown (hts _ hl) hi hst hcf hin2 (by rw [q2]; exact h6) q1 q3 (by rw [hsl]; exact k2_hasslot (q4 j hj)) rfl rfl hd fin
def upz (z : Nat → Nat → Bool) (k j : Nat) : Nat → Nat → Bool := fun a c => if a = k then (if c = j then false else z a c) else z a c
/-- putfield of an int or boolean field -/
theorem xputI {idx ci N : Nat} {Cn : String} {T : u_T} {ty0 : Nat → FieldType} {n0 : Nat} (C0 : Cx p s m args meth c cc nL own D tA b o n0 A) (hn : n ≤ n0) (hH : Hd D tA b o n z i F G H) (hS : va_S A H0 H locs) (k j : Nat) (cl : Cl ci Cn T ty0 N) (hk : o ≤ k ∧ k < o + n) (hc : ckd k = ci ∧ cnn k = N) (hj : j < N ∧ rtt k j = 0 ∧ (T j).2.2.2 = false) (hl : Cond.fieldLink own idx (T j).1 (T j).2.1 (T j).2.2.1 ∈ WALL) {x : Int32} (hf : narrow (ty0 j) (.int x) = .int x ∧ fits (ty0 j) (.int x) = true) (hd : decode cc pc = .ok (.putfield idx, 3))
    (kk : ∀ (H1 : Heap) (locs : List Loc), Hd D tA b o n z (up2 i k j x) F G H1 → va_S A H0 H1 locs → H1.size = H.size → W p l e R s m args below meth c H1 locs cells slots Q (F0 m (pc + 3) ls rest)) : W p l e R s m args below meth c H locs cells slots Q (F0 m pc ls (.int x :: .ref (b + k) :: rest)) :=
  xput0 C0 hn hH hS k j cl hk hc hj.1 (Or.inl hj.2.2) hl hf (by unfold xV; rw [if_pos hj.2.1, up2_s]) (fun a ha => by unfold xV; rw [up2_j ha]) (fun a ha => ⟨rfl, by funext c; exact up2_k ha⟩) hd kk
/-- putfield of a final reference, in its constructor -/
theorem xputF {idx ci N : Nat} {Cn : String} {T : u_T} {ty0 : Nat → FieldType} {n0 : Nat} (C0 : Cx p s m args meth c cc nL own D tA b o n0 A) (hn : n ≤ n0) (hin : meth.name = "<init>") (hH : Hd D tA b o n z i F G H) (hS : va_S A H0 H locs) (k j t : Nat) (cl : Cl ci Cn T ty0 N) (hk : o ≤ k ∧ k < o + n) (hc : ckd k = ci ∧ cnn k = N) (hj : j < N ∧ rtt k j = t ∧ t ≠ 0 ∧ t ≠ 1000 ∧ (T j).2.2.2 = true ∧ (T j).1 = own) (hl : Cond.fieldLink own idx (T j).1 (T j).2.1 (T j).2.2.1 ∈ WALL) (hf : ∀ q, narrow (ty0 j) (.ref q) = .ref q ∧ fits (ty0 j) (.ref q) = true) (hd : decode cc pc = .ok (.putfield idx, 3))
    (kk : ∀ (H1 : Heap) (locs : List Loc), Hd D tA b o n (upz z k j) i F G H1 → va_S A H0 H1 locs → H1.size = H.size → W p l e R s m args below meth c H1 locs cells slots Q (F0 m (pc + 3) ls rest)) : W p l e R s m args below meth c H locs cells slots Q (F0 m pc ls (.ref (b + t) :: .ref (b + k) :: rest)) := by
  obtain ⟨j1, j2, j3, j4, j5, j6⟩ := hj
  subst j2
  exact xput0 C0 hn hH hS k j cl hk hc j1 (Or.inr ⟨j5, hin, j6⟩) hl (hf _) (by unfold xV; rw [if_neg j3, if_neg (by simp [upz]), if_neg j4]) (fun a ha => by unfold xV; simp [upz, ha]) (fun a ha => ⟨by funext c; simp [upz, ha], rfl⟩) hd kk
/-- putfield of a reference that may change -/
theorem xputR {idx ci N : Nat} {Cn : String} {T : u_T} {ty0 : Nat → FieldType} {n0 : Nat} (C0 : Cx p s m args meth c cc nL own D tA b o n0 A) (hn : n ≤ n0) (hH : Hd D tA b o n z i F G H) (hS : va_S A H0 H locs) (k j t : Nat) (cl : Cl ci Cn T ty0 N) (hk : o ≤ k ∧ k < o + n) (hc : ckd k = ci ∧ cnn k = N) (hj : j < N ∧ rtt k j = 1000 ∧ (T j).2.2.2 = false) (ht : t < 2 ^ 31) (hl : Cond.fieldLink own idx (T j).1 (T j).2.1 (T j).2.2.1 ∈ WALL) (hf : ∀ q, narrow (ty0 j) (.ref q) = .ref q ∧ fits (ty0 j) (.ref q) = true) (hd : decode cc pc = .ok (.putfield idx, 3))
    (kk : ∀ (H1 : Heap) (locs : List Loc), Hd D tA b o n (upz z k j) (up2 i k j (nI t)) F G H1 → va_S A H0 H1 locs → H1.size = H.size → W p l e R s m args below meth c H1 locs cells slots Q (F0 m (pc + 3) ls rest)) : W p l e R s m args below meth c H locs cells slots Q (F0 m pc ls (.ref (b + t) :: .ref (b + k) :: rest)) :=
  xput0 C0 hn hH hS k j cl hk hc hj.1 (Or.inl hj.2.2) hl (hf _) (by unfold xV; rw [if_neg (by omega), if_neg (by simp [upz]), if_pos hj.2.1, up2_s, nI_clamp ht]) (fun a ha => by unfold xV; rw [up2_j ha]; simp [upz, ha]) (fun a ha => ⟨by funext c; simp [upz, ha], by funext c; exact up2_k ha⟩) hd kk
theorem tyA_0 : (tyA tA)[0]? = some (tA 0, .int) := rfl
/-- a world with one array changed -/
theorem wl_setF {k : Nat} {g : Nat → Int32} (hok : o ≤ k) (h : ¬ ckd k < 50) (h2 : ¬ ckd k = 53) : (wl b tA z i F G o n).set (k - o) (b + k, .inl (tA (ckd k - 50), cnn k, .inl g)) = wl b tA z i (va_up F k g) G o n := by
  refine wl_set hok ?_ (fun a ha => ?_)
  · rw [xE_a h h2, va_up_self]
  · unfold xE; rw [va_up_ne _ _ ha]
theorem wl_setG {k : Nat} {g : Nat → Int64} (hok : o ≤ k) (h2 : ckd k = 53) : (wl b tA z i F G o n).set (k - o) (b + k, .inl (tA 3, cnn k, .inr (.inl g))) = wl b tA z i F (va_up G k g) o n := by
  refine wl_set hok ?_ (fun a ha => ?_)
  · rw [xE_l h2, va_up_self]
  · unfold xE; rw [va_up_ne _ _ ha]
theorem he_a {k t N : Nat} (hk : o ≤ k ∧ k < o + n) (hc : ckd k = t ∧ cnn k = N) (ht : 50 ≤ t ∧ t < 53) : (wl b tA z i F G o n)[k - o]? = some (b + k, .inl (tA (t - 50), N, .inl (F k))) := by
  rw [wl_at hk, xE_a (by omega) (by omega), hc.1, hc.2]
theorem he_l {k N : Nat} (hk : o ≤ k ∧ k < o + n) (hc : ckd k = 53 ∧ cnn k = N) : (wl b tA z i F G o n)[k - o]? = some (b + k, .inl (tA 3, N, .inr (.inl (G k)))) := by
  rw [wl_at hk, xE_l hc.1, hc.2]
theorem xiald {n0 N : Nat} (C0 : Cx p s m args meth c cc nL own D tA b o n0 A) (hH : Hd D tA b o n z i F G H) (k : Nat) (hk : o ≤ k ∧ k < o + n) (hc : ckd k = 50 ∧ cnn k = N) {x : Int32} (hin : vp_in x N) (hd : decode cc pc = .ok (.iaload, 1)) (kk : W p l e R s m args below meth c H locs cells slots Q (F0 m (pc + 1) ls (.int (F k x.toNatClampNeg) :: rest))) : W p l e R s m args below meth c H locs cells slots Q (F0 m pc ls (.int x :: .ref (b + k) :: rest)) :=
  va_iald C0.1 C0.2.1 C0.2.2.2.2.2.1.1 hH (k - o) 0 (he_a hk hc (by omega)) rfl hin hd kk
theorem xbald {n0 N : Nat} (C0 : Cx p s m args meth c cc nL own D tA b o n0 A) (hH : Hd D tA b o n z i F G H) (k : Nat) (hk : o ≤ k ∧ k < o + n) (hc : ckd k = 51 ∧ cnn k = N) {x : Int32} (hin : vp_in x N) (hd : decode cc pc = .ok (.baload, 1)) (kk : W p l e R s m args below meth c H locs cells slots Q (F0 m (pc + 1) ls (.int (F k x.toNatClampNeg) :: rest))) : W p l e R s m args below meth c H locs cells slots Q (F0 m pc ls (.int x :: .ref (b + k) :: rest)) :=
  va_bald C0.1 C0.2.1 C0.2.2.2.2.2.1.1 hH (k - o) 1 (he_a hk hc (by omega)) rfl hin hd kk
theorem xzald {n0 N : Nat} (C0 : Cx p s m args meth c cc nL own D tA b o n0 A) (hH : Hd D tA b o n z i F G H) (k : Nat) (hk : o ≤ k ∧ k < o + n) (hc : ckd k = 52 ∧ cnn k = N) {x : Int32} (hin : vp_in x N) (hd : decode cc pc = .ok (.baload, 1)) (kk : W p l e R s m args below meth c H locs cells slots Q (F0 m (pc + 1) ls (.int (F k x.toNatClampNeg) :: rest))) : W p l e R s m args below meth c H locs cells slots Q (F0 m pc ls (.int x :: .ref (b + k) :: rest)) :=
  va_zald C0.1 C0.2.1 C0.2.2.2.2.2.1.1 hH (k - o) 2 (he_a hk hc (by omega)) rfl hin hd kk
theorem xlald {n0 N : Nat} (C0 : Cx p s m args meth c cc nL own D tA b o n0 A) (hH : Hd D tA b o n z i F G H) (k : Nat) (hk : o ≤ k ∧ k < o + n) (hc : ckd k = 53 ∧ cnn k = N) {x : Int32} (hin : vp_in x N) (hd : decode cc pc = .ok (.laload, 1)) (kk : W p l e R s m args below meth c H locs cells slots Q (F0 m (pc + 1) ls (.long (G k x.toNatClampNeg) :: rest))) : W p l e R s m args below meth c H locs cells slots Q (F0 m pc ls (.int x :: .ref (b + k) :: rest)) :=
  va_lald C0.1 C0.2.1 C0.2.2.2.2.2.1.1 hH (k - o) 3 (he_l hk hc) rfl hin hd kk
/-- iastore, with the size -/
theorem xiast {n0 N : Nat} (C0 : Cx p s m args meth c cc nL own D tA b o n0 A) (hn : n ≤ n0) (hH : Hd D tA b o n z i F G H) (hS : va_S A H0 H locs) (k : Nat) (hk : o ≤ k ∧ k < o + n) (hc : ckd k = 50 ∧ cnn k = N) {x v : Int32} (hin : vp_in x N) (hd : decode cc pc = .ok (.iastore, 1))
    (kk : ∀ (H1 : Heap) (locs : List Loc), Hd D tA b o n z i (va_up F k (upd (F k) x.toNatClampNeg v)) G H1 → va_S A H0 H1 locs → H1.size = H.size → W p l e R s m args below meth c H1 locs cells slots Q (F0 m (pc + 1) ls rest)) : W p l e R s m args below meth c H locs cells slots Q (F0 m pc ls (.int v :: .int x :: .ref (b + k) :: rest)) := by
  have hD : va_D A (wl b tA z i F G o n) := wl_D (fun a ha => C0.2.2.2.2.2.2.1 a (by omega))
  have ha : (wl b tA z i F G o n)[k - o]? = some (b + k, .inl (tA 0, N, .inl (F k))) := he_a (t := 50) hk hc (by omega)
  refine W.iast C0.1 C0.2.1 (hH (k - o) _ ha) ((C0.2.2.2.2.2.1.1.2 0 _ tyA_0).1 N (fun j => .int (F k j))) (fun q => by cases q) (by show ¬ (x < 0 ∨ (arrV _ _ _).slots.size ≤ _); rw [arrV_size]; exact hin) rfl rfl hd fun H1 e1 e2 e3 => ?_
  have hP' := hH.set hD ha (e := .inl (tA 0, N, .inl (upd (F k) x.toNatClampNeg v))) (by
    show H1[b + k]? = some (vp_cell _ _)
    rw [e1]
    rw [vp_cell_i, vp_cell_i, arrV_store]
    congr 2
    funext q
    by_cases hq : q = x.toNatClampNeg
    · subst hq
      simp [updV, upd]
    · simp [updV, upd, hq]) e3
  have hse := wl_setF (b := b) (tA := tA) (z := z) (i := i) (F := F) (G := G) (o := o) (n := n) (k := k) (g := upd (F k) x.toNatClampNeg v) hk.1 (by omega) (by omega)
  rw [hc.1, hc.2] at hse
  rw [hse] at hP'
  exact kk H1 _ hP' (hS.put e2 e3 (hD.2 (k - o) _ ha)) e2
theorem xbast {n0 N : Nat} (C0 : Cx p s m args meth c cc nL own D tA b o n0 A) (hn : n ≤ n0) (hH : Hd D tA b o n z i F G H) (hS : va_S A H0 H locs) (k : Nat) (hk : o ≤ k ∧ k < o + n) (hc : ckd k = 51 ∧ cnn k = N) {x v : Int32} (hin : vp_in x N) (hd : decode cc pc = .ok (.bastore, 1))
    (kk : ∀ (H1 : Heap) (locs : List Loc), Hd D tA b o n z i (va_up F k (upd (F k) x.toNatClampNeg v.toInt8.toInt32)) G H1 → va_S A H0 H1 locs → W p l e R s m args below meth c H1 locs cells slots Q (F0 m (pc + 1) ls rest)) : W p l e R s m args below meth c H locs cells slots Q (F0 m pc ls (.int v :: .int x :: .ref (b + k) :: rest)) := by
  have hD : va_D A (wl b tA z i F G o n) := wl_D (fun a ha => C0.2.2.2.2.2.2.1 a (by omega))
  have hse := wl_setF (b := b) (tA := tA) (z := z) (i := i) (F := F) (G := G) (o := o) (n := n) (k := k) (g := upd (F k) x.toNatClampNeg v.toInt8.toInt32) hk.1 (by omega) (by omega)
  rw [hc.1, hc.2] at hse
  refine va_bast C0.1 C0.2.1 C0.2.2.2.2.2.1.1 hH hD hS (k - o) 1 (he_a (t := 51) hk hc (by omega)) rfl hin hd (fun H1 l1 q1 q2 q3 => ?_)
  rw [← vp_nar_byte] at hse
  rw [hse] at q1
  rw [vp_nar_byte] at q1
  exact kk H1 l1 q1 q3
theorem xzast {n0 N : Nat} (C0 : Cx p s m args meth c cc nL own D tA b o n0 A) (hn : n ≤ n0) (hH : Hd D tA b o n z i F G H) (hS : va_S A H0 H locs) (k : Nat) (hk : o ≤ k ∧ k < o + n) (hc : ckd k = 52 ∧ cnn k = N) {x v : Int32} (hv : v = 0 ∨ v = 1) (hin : vp_in x N) (hd : decode cc pc = .ok (.bastore, 1))
    (kk : ∀ (H1 : Heap) (locs : List Loc), Hd D tA b o n z i (va_up F k (upd (F k) x.toNatClampNeg v)) G H1 → va_S A H0 H1 locs → W p l e R s m args below meth c H1 locs cells slots Q (F0 m (pc + 1) ls rest)) : W p l e R s m args below meth c H locs cells slots Q (F0 m pc ls (.int v :: .int x :: .ref (b + k) :: rest)) := by
  have hD : va_D A (wl b tA z i F G o n) := wl_D (fun a ha => C0.2.2.2.2.2.2.1 a (by omega))
  have hse := wl_setF (b := b) (tA := tA) (z := z) (i := i) (F := F) (G := G) (o := o) (n := n) (k := k) (g := upd (F k) x.toNatClampNeg v) hk.1 (by omega) (by omega)
  rw [hc.1, hc.2] at hse
  have hvn : vp_nar .boolean v = v := by rcases hv with rfl | rfl <;> rfl
  refine va_zast C0.1 C0.2.1 C0.2.2.2.2.2.1.1 hH hD hS (k - o) 2 (he_a (t := 52) hk hc (by omega)) rfl hin hd (fun H1 l1 q1 q2 q3 => ?_)
  rw [hvn] at q1
  rw [hse] at q1
  exact kk H1 l1 q1 q3
theorem xlast {n0 N : Nat} (C0 : Cx p s m args meth c cc nL own D tA b o n0 A) (hn : n ≤ n0) (hH : Hd D tA b o n z i F G H) (hS : va_S A H0 H locs) (k : Nat) (hk : o ≤ k ∧ k < o + n) (hc : ckd k = 53 ∧ cnn k = N) {x : Int32} {v : Int64} (hin : vp_in x N) (hd : decode cc pc = .ok (.lastore, 1))
    (kk : ∀ (H1 : Heap) (locs : List Loc), Hd D tA b o n z i F (va_up G k (vp_updL (G k) x.toNatClampNeg v)) H1 → va_S A H0 H1 locs → W p l e R s m args below meth c H1 locs cells slots Q (F0 m (pc + 1) ls rest)) : W p l e R s m args below meth c H locs cells slots Q (F0 m pc ls (.long v :: .int x :: .ref (b + k) :: rest)) := by
  have hD : va_D A (wl b tA z i F G o n) := wl_D (fun a ha => C0.2.2.2.2.2.2.1 a (by omega))
  have hse := wl_setG (b := b) (tA := tA) (z := z) (i := i) (F := F) (G := G) (o := o) (n := n) (k := k) (g := vp_updL (G k) x.toNatClampNeg v) hk.1 hc.1
  rw [hc.2] at hse
  refine va_last C0.1 C0.2.1 C0.2.2.2.2.2.1.1 hH hD hS (k - o) 3 (he_l hk hc) rfl hin hd (fun H1 l1 q1 q2 q3 => ?_)
  rw [hse] at q1
  exact kk H1 l1 q1 q3
theorem xalen {n0 N t : Nat} (C0 : Cx p s m args meth c cc nL own D tA b o n0 A) (hH : Hd D tA b o n z i F G H) (k : Nat) (hk : o ≤ k ∧ k < o + n) (hc : ckd k = t ∧ cnn k = N) (ht : t = 50 ∨ t = 51 ∨ t = 52 ∨ t = 53) (hd : decode cc pc = .ok (.arraylength, 1)) (kk : W p l e R s m args below meth c H locs cells slots Q (F0 m (pc + 1) ls (.int (nI N) :: rest))) : W p l e R s m args below meth c H locs cells slots Q (F0 m pc ls (.ref (b + k) :: rest)) := by
  rcases ht with rfl | rfl | rfl | rfl
  · exact va_alen C0.1 C0.2.1 C0.2.2.2.2.2.1.1 hH (k - o) 0 (he_a hk hc (by omega)) (ty := .int) rfl rfl hd kk
  · exact va_alen C0.1 C0.2.1 C0.2.2.2.2.2.1.1 hH (k - o) 1 (he_a hk hc (by omega)) (ty := .byte) rfl rfl hd kk
  · exact va_alen C0.1 C0.2.1 C0.2.2.2.2.2.1.1 hH (k - o) 2 (he_a hk hc (by omega)) (ty := .boolean) rfl rfl hd kk
  · exact va_alen C0.1 C0.2.1 C0.2.2.2.2.2.1.1 hH (k - o) 3 (he_l hk hc) (ty := .long) rfl rfl hd kk
end XB
