/-! the book: what is told, on both sides -/
def sT (n : Int32) (g : Nat → Int64) (t : Int64) : Prop := ∃ j : Nat, (j : Int) < n.toInt ∧ g j = t
theorem sT_up {n t : Int32} {g : Nat → Int64} {w x : Int64} (hn : 0 ≤ n.toInt) (ht : t.toInt = n.toInt + 1) : sT t (vp_updL g n.toNatClampNeg w) x ↔ (sT n g x ∨ x = w) := by
  have hc := clI hn
  constructor
  · rintro ⟨j, hj, e⟩
    unfold vp_updL at e
    by_cases q : j = n.toNatClampNeg
    · rw [if_pos q] at e; exact Or.inr e.symm
    · rw [if_neg q] at e; exact Or.inl ⟨j, by omega, e⟩
  · rintro (⟨j, hj, e⟩ | rfl)
    · exact ⟨j, by omega, by unfold vp_updL; rw [if_neg (by omega)]; exact e⟩
    · exact ⟨n.toNatClampNeg, by omega, by unfold vp_updL; rw [if_pos rfl]⟩
/-- what one call of the book says: the answer r, the new count c2, what is told then -/
def tlR (bad dup : Prop) (c mx : Int32) (S S2 add : Int64 → Prop) (r c2 : Int32) : Prop :=
  (bad ∧ r = -2 ∧ c2 = c ∧ S2 = S) ∨ (¬ bad ∧ dup ∧ r = -3 ∧ c2 = c ∧ S2 = S) ∨ (¬ bad ∧ ¬ dup ∧ c = mx ∧ r = -4 ∧ c2 = c ∧ S2 = S) ∨ (¬ bad ∧ ¬ dup ∧ ¬ c = mx ∧ r = c + 1 ∧ c2 = c + 1 ∧ S2 = fun t => S t ∨ add t)
theorem tlR.fn {bad dup : Prop} {c mx : Int32} {S S2 S3 add : Int64 → Prop} {r c2 r3 c3 : Int32} (h : tlR bad dup c mx S S2 add r c2) (h3 : tlR bad dup c mx S S3 add r3 c3) : r = r3 ∧ c2 = c3 ∧ S2 = S3 := by
  rcases h with ⟨a, b1, b2, b3⟩ | ⟨a, a2, b1, b2, b3⟩ | ⟨a, a2, a3, b1, b2, b3⟩ | ⟨a, a2, a3, b1, b2, b3⟩ <;>
  rcases h3 with ⟨x, y1, y2, y3⟩ | ⟨x, x2, y1, y2, y3⟩ | ⟨x, x2, x3, y1, y2, y3⟩ | ⟨x, x2, x3, y1, y2, y3⟩ <;>
  first
  | exact ⟨b1.trans y1.symm, b2.trans y2.symm, b3.trans y3.symm⟩
  | exact absurd a x
  | exact absurd x a
  | exact absurd a2 x2
  | exact absurd x2 a2
  | exact absurd a3 x3
  | exact absurd x3 a3
def BkC (i F : Nat → Nat → Int32) (G : Nat → Nat → Int64) (S : Int64 → Prop) : Prop :=
  ((0 ≤ (i 1 3).toInt ∧ (i 1 3).toInt ≤ 8) ∧ (0 ≤ (i 1 4).toInt ∧ (i 1 4).toInt ≤ 4) ∧ (0 ≤ (i 1 5).toInt ∧ (i 1 5).toInt ≤ 4) ∧ (0 ≤ (i 1 6).toInt ∧ (i 1 6).toInt ≤ 4) ∧ (0 ≤ (i 1 7).toInt ∧ (i 1 7).toInt ≤ 8)) ∧ (i 1 2).toInt = (i 1 3).toInt + 2 * (i 1 4).toInt + (i 1 5).toInt + (i 1 6).toInt ∧ (∀ j : Nat, (j : Int) < (i 1 2).toInt → ¬ F 3 j = 0) ∧ ∀ t, S t ↔ sT (i 1 2) (G 2) t
theorem rl_up {f : Nat → Int32} {n t y : Int32} (hn : 0 ≤ n.toInt) (ht : t.toInt = n.toInt + 1) (hy : ¬ y = 0) (h : ∀ j : Nat, (j : Int) < n.toInt → ¬ f j = 0) : ∀ j : Nat, (j : Int) < t.toInt → ¬ upd f n.toNatClampNeg y j = 0 := fun j hj => by
  have hc := clI hn
  by_cases q : j = n.toNatClampNeg
  · rw [q, upd_s]; exact hy
  · rw [upd_n q]; exact h j (by omega)
theorem BkC.op {i F : Nat → Nat → Int32} {G : Nat → Nat → Int64} {S : Int64 → Prop} {t c y : Int32} {w : Int64} (h : BkC i F G S) (ht : t.toInt = (i 1 2).toInt + 1) (hc : c.toInt = (i 1 3).toInt + 1) (h8 : (i 1 3).toInt < 8) (hy : ¬ y = 0) : BkC (up2 (up2 i 1 2 t) 1 3 c) (va_up F 3 (upd (F 3) (i 1 2).toNatClampNeg y)) (va_up G 2 (vp_updL (G 2) (i 1 2).toNatClampNeg w)) (fun x => S x ∨ x = w) := by
  obtain ⟨⟨r1, r2, r3, r4, r5⟩, hs, hr, hS⟩ := h
  refine ⟨⟨⟨by show 0 ≤ c.toInt; omega, by show c.toInt ≤ 8; omega⟩, r2, r3, r4, r5⟩, ?_, ?_, ?_⟩
  · show t.toInt = c.toInt + 2 * (i 1 4).toInt + (i 1 5).toInt + (i 1 6).toInt; omega
  · exact rl_up (n := i 1 2) (t := t) (by omega) ht hy hr
  · intro x
    show (S x ∨ x = w) ↔ sT t (vp_updL (G 2) (i 1 2).toNatClampNeg w) x
    rw [sT_up (by omega) ht, ← hS x]
theorem BkC.cl {i F : Nat → Nat → Int32} {G : Nat → Nat → Int64} {S : Int64 → Prop} {t c y : Int32} {w : Int64} (h : BkC i F G S) (ht : t.toInt = (i 1 2).toInt + 1) (hc : c.toInt = (i 1 5).toInt + 1) (h8 : (i 1 5).toInt < 4) (hy : ¬ y = 0) : BkC (up2 (up2 i 1 2 t) 1 5 c) (va_up F 3 (upd (F 3) (i 1 2).toNatClampNeg y)) (va_up G 2 (vp_updL (G 2) (i 1 2).toNatClampNeg w)) (fun x => S x ∨ x = w) := by
  obtain ⟨⟨r1, r2, r3, r4, r5⟩, hs, hr, hS⟩ := h
  refine ⟨⟨r1, r2, ⟨by show 0 ≤ c.toInt; omega, by show c.toInt ≤ 4; omega⟩, r4, r5⟩, ?_, ?_, ?_⟩
  · show t.toInt = (i 1 3).toInt + 2 * (i 1 4).toInt + c.toInt + (i 1 6).toInt; omega
  · exact rl_up (n := i 1 2) (t := t) (by omega) ht hy hr
  · intro x
    show (S x ∨ x = w) ↔ sT t (vp_updL (G 2) (i 1 2).toNatClampNeg w) x
    rw [sT_up (by omega) ht, ← hS x]
theorem BkC.go {i F : Nat → Nat → Int32} {G : Nat → Nat → Int64} {S : Int64 → Prop} {t c y : Int32} {w : Int64} (h : BkC i F G S) (ht : t.toInt = (i 1 2).toInt + 1) (hc : c.toInt = (i 1 6).toInt + 1) (h8 : (i 1 6).toInt < 4) (hy : ¬ y = 0) : BkC (up2 (up2 i 1 2 t) 1 6 c) (va_up F 3 (upd (F 3) (i 1 2).toNatClampNeg y)) (va_up G 2 (vp_updL (G 2) (i 1 2).toNatClampNeg w)) (fun x => S x ∨ x = w) := by
  obtain ⟨⟨r1, r2, r3, r4, r5⟩, hs, hr, hS⟩ := h
  refine ⟨⟨r1, r2, r3, ⟨by show 0 ≤ c.toInt; omega, by show c.toInt ≤ 4; omega⟩, r5⟩, ?_, ?_, ?_⟩
  · show t.toInt = (i 1 3).toInt + 2 * (i 1 4).toInt + (i 1 5).toInt + c.toInt; omega
  · exact rl_up (n := i 1 2) (t := t) (by omega) ht hy hr
  · intro x
    show (S x ∨ x = w) ↔ sT t (vp_updL (G 2) (i 1 2).toNatClampNeg w) x
    rw [sT_up (by omega) ht, ← hS x]
theorem BkC.pr {i F : Nat → Nat → Int32} {G : Nat → Nat → Int64} {S : Int64 → Prop} {t t2 c y y2 : Int32} {w w2 : Int64} (h : BkC i F G S) (ht : t.toInt = (i 1 2).toInt + 1) (ht2 : t2.toInt = t.toInt + 1) (hc : c.toInt = (i 1 4).toInt + 1) (h8 : (i 1 4).toInt < 4) (hy : ¬ y = 0) (hy2 : ¬ y2 = 0) : BkC (up2 (up2 (up2 i 1 2 t) 1 2 t2) 1 4 c) (va_up (va_up F 3 (upd (F 3) (i 1 2).toNatClampNeg y)) 3 (upd (upd (F 3) (i 1 2).toNatClampNeg y) t.toNatClampNeg y2)) (va_up (va_up G 2 (vp_updL (G 2) (i 1 2).toNatClampNeg w)) 2 (vp_updL (vp_updL (G 2) (i 1 2).toNatClampNeg w) t.toNatClampNeg w2)) (fun x => S x ∨ (x = w ∨ x = w2)) := by
  obtain ⟨⟨r1, r2, r3, r4, r5⟩, hs, hr, hS⟩ := h
  refine ⟨⟨r1, ⟨by show 0 ≤ c.toInt; omega, by show c.toInt ≤ 4; omega⟩, r3, r4, r5⟩, ?_, ?_, ?_⟩
  · show t2.toInt = (i 1 3).toInt + 2 * c.toInt + (i 1 5).toInt + (i 1 6).toInt; omega
  · exact rl_up (n := t) (t := t2) (by omega) ht2 hy2 (rl_up (n := i 1 2) (t := t) (by omega) ht hy hr)
  · intro x
    show (S x ∨ (x = w ∨ x = w2)) ↔ sT t2 (vp_updL (vp_updL (G 2) (i 1 2).toNatClampNeg w) t.toNatClampNeg w2) x
    rw [sT_up (by omega) ht2, sT_up (by omega) ht, ← hS x, or_assoc]
def OB (i F : Nat → Nat → Int32) (u : XS) : Prop := ∀ k, (k < 1 ∨ 4 ≤ k) → u.1 k = i k ∧ u.2.1 k = F k
theorem OB.rf {i F : Nat → Nat → Int32} {G : Nat → Nat → Int64} : OB i F (i, F, G) := fun _ _ => ⟨rfl, rfl⟩
theorem OB.i {i F i2 F2 : Nat → Nat → Int32} {G2 : Nat → Nat → Int64} {k j : Nat} {x : Int32} (h : OB i F (i2, F2, G2)) (hk : 1 ≤ k ∧ k < 4) : OB i F (up2 i2 k j x, F2, G2) := fun q hq => ⟨by
  funext t
  show up2 i2 k j x q t = _
  rw [up2_k (by omega)]
  exact congrFun (h q hq).1 t, (h q hq).2⟩
theorem OB.f {i F i2 F2 : Nat → Nat → Int32} {G2 : Nat → Nat → Int64} {k : Nat} {g : Nat → Int32} (h : OB i F (i2, F2, G2)) (hk : 1 ≤ k ∧ k < 4) : OB i F (i2, va_up F2 k g, G2) := fun q hq => ⟨(h q hq).1, by
  show va_up F2 k g q = _
  rw [va_up_ne _ _ (by omega)]
  exact (h q hq).2⟩
theorem OB.g {i F i2 F2 : Nat → Nat → Int32} {G2 G3 : Nat → Nat → Int64} (h : OB i F (i2, F2, G2)) : OB i F (i2, F2, G3) := h
