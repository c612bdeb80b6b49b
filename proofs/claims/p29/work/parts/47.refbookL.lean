def sP (n : Int32) (f g : Nat → Int32) (t : Int64) : Prop := ∃ j : Nat, (j : Int) < n.toInt ∧ ((f j).toInt64 = t ∨ (g j).toInt64 = t)
def sI (n : Int32) (f : Nat → Int32) (t : Int64) : Prop := ∃ j : Nat, (j : Int) < n.toInt ∧ (f j).toInt64 = t
def sM (i F : Nat → Nat → Int32) (G : Nat → Nat → Int64) (t : Int64) : Prop := ((sT (i 78 0) (G 79) t ∨ sP (i 78 3) (F 81) (F 82) t) ∨ sT (i 78 6) (G 83) t) ∨ sI (i 78 8) (F 84) t
theorem ex_s {n t : Int32} {P : Nat → Prop} (hn : 0 ≤ n.toInt) (ht : t.toInt = n.toInt + 1) : (∃ j : Nat, (j : Int) < t.toInt ∧ P j) ↔ ((∃ j : Nat, (j : Int) < n.toInt ∧ P j) ∨ P n.toNatClampNeg) := by
  have hc := clI hn
  constructor
  · rintro ⟨j, hj, e⟩
    by_cases q : j = n.toNatClampNeg
    · rw [q] at e; exact Or.inr e
    · exact Or.inl ⟨j, by omega, e⟩
  · rintro (⟨j, hj, e⟩ | e)
    · exact ⟨j, by omega, e⟩
    · exact ⟨n.toNatClampNeg, by omega, e⟩
theorem itA {q : Int32} {P P2 e : Prop} (h : q = 1 ↔ P) (h01 : q = 0 ∨ q = 1) (hq : ¬ q.toInt = Int32.toInt 0) (hs : P2 ↔ P ∨ e) : ((1 : Int32) = 1 ↔ P2) := ⟨fun _ => hs.mpr (Or.inl (h.mp (h01.resolve_left (fun w => hq (by rw [w]))))), fun _ => rfl⟩
theorem itB {P P2 e : Prop} (hs : P2 ↔ P ∨ e) (he : e) : ((1 : Int32) = 1 ↔ P2) := ⟨fun _ => hs.mpr (Or.inr he), fun _ => rfl⟩
theorem itC {q : Int32} {P P2 e : Prop} (h : q = 1 ↔ P) (hq : q.toInt = Int32.toInt 0) (hs : P2 ↔ P ∨ e) (he : ¬ e) : ((0 : Int32) = 1 ↔ P2) := ⟨fun w => absurd w (by decide), fun w => by
  rcases hs.mp w with a | a
  · have := h.mpr a
    rw [this] at hq
    exact absurd hq (by decide)
  · exact absurd a he⟩
def BkM (i F : Nat → Nat → Int32) (G : Nat → Nat → Int64) (S : Int64 → Prop) : Prop :=
  ((0 ≤ (i 78 0).toInt ∧ (i 78 0).toInt ≤ 8) ∧ (0 ≤ (i 78 3).toInt ∧ (i 78 3).toInt ≤ 4) ∧ (0 ≤ (i 78 6).toInt ∧ (i 78 6).toInt ≤ 4) ∧ (0 ≤ (i 78 8).toInt ∧ (i 78 8).toInt ≤ 4) ∧ (0 ≤ (i 78 10).toInt ∧ (i 78 10).toInt ≤ 8)) ∧ ∀ t, S t ↔ sM i F G t
theorem or4 {a b c d e : Prop} : (((a ∨ b) ∨ c) ∨ d) ∨ e ↔ ((((a ∨ e) ∨ b) ∨ c) ∨ d) := by
  constructor
  · rintro ((((h | h) | h) | h) | h)
    · exact Or.inl (Or.inl (Or.inl (Or.inl h)))
    · exact Or.inl (Or.inl (Or.inr h))
    · exact Or.inl (Or.inr h)
    · exact Or.inr h
    · exact Or.inl (Or.inl (Or.inl (Or.inr h)))
  · rintro ((((h | h) | h) | h) | h)
    · exact Or.inl (Or.inl (Or.inl (Or.inl h)))
    · exact Or.inr h
    · exact Or.inl (Or.inl (Or.inl (Or.inr h)))
    · exact Or.inl (Or.inl (Or.inr h))
    · exact Or.inl (Or.inr h)
theorem or4b {a b c d e : Prop} : (((a ∨ b) ∨ c) ∨ d) ∨ e ↔ (((a ∨ (b ∨ e)) ∨ c) ∨ d) := by
  constructor
  · rintro ((((h | h) | h) | h) | h)
    · exact Or.inl (Or.inl (Or.inl h))
    · exact Or.inl (Or.inl (Or.inr (Or.inl h)))
    · exact Or.inl (Or.inr h)
    · exact Or.inr h
    · exact Or.inl (Or.inl (Or.inr (Or.inr h)))
  · rintro (((h | (h | h)) | h) | h)
    · exact Or.inl (Or.inl (Or.inl (Or.inl h)))
    · exact Or.inl (Or.inl (Or.inl (Or.inr h)))
    · exact Or.inr h
    · exact Or.inl (Or.inl (Or.inr h))
    · exact Or.inl (Or.inr h)
theorem or4c {a c d e : Prop} : ((a ∨ c) ∨ d) ∨ e ↔ ((a ∨ (c ∨ e)) ∨ d) := by
  constructor
  · rintro (((h | h) | h) | h)
    · exact Or.inl (Or.inl h)
    · exact Or.inl (Or.inr (Or.inl h))
    · exact Or.inr h
    · exact Or.inl (Or.inr (Or.inr h))
  · rintro ((h | (h | h)) | h)
    · exact Or.inl (Or.inl (Or.inl h))
    · exact Or.inl (Or.inl (Or.inr h))
    · exact Or.inr h
    · exact Or.inl (Or.inr h)
theorem sI_up {n t : Int32} {f : Nat → Int32} {w : Int32} {x : Int64} (hn : 0 ≤ n.toInt) (ht : t.toInt = n.toInt + 1) : sI t (upd f n.toNatClampNeg w) x ↔ (sI n f x ∨ x = w.toInt64) := by
  have hc := clI hn
  unfold sI
  rw [ex_s hn ht, upd_s]
  constructor
  · rintro (⟨j, hj, e⟩ | e)
    · rw [upd_n (by omega)] at e; exact Or.inl ⟨j, hj, e⟩
    · exact Or.inr e.symm
  · rintro (⟨j, hj, e⟩ | e)
    · exact Or.inl ⟨j, hj, by rw [upd_n (by omega)]; exact e⟩
    · exact Or.inr e.symm
theorem sP_up {n t : Int32} {f g : Nat → Int32} {v w : Int32} {x : Int64} (hn : 0 ≤ n.toInt) (ht : t.toInt = n.toInt + 1) : sP t (upd f n.toNatClampNeg v) (upd g n.toNatClampNeg w) x ↔ (sP n f g x ∨ (x = v.toInt64 ∨ x = w.toInt64)) := by
  have hc := clI hn
  unfold sP
  rw [ex_s hn ht, upd_s, upd_s]
  constructor
  · rintro (⟨j, hj, e⟩ | e)
    · rw [upd_n (by omega), upd_n (by omega)] at e; exact Or.inl ⟨j, hj, e⟩
    · exact Or.inr (e.imp Eq.symm Eq.symm)
  · rintro (⟨j, hj, e⟩ | e)
    · exact Or.inl ⟨j, hj, by rw [upd_n (by omega), upd_n (by omega)]; exact e⟩
    · exact Or.inr (e.imp Eq.symm Eq.symm)
theorem BkM.op {i F : Nat → Nat → Int32} {G : Nat → Nat → Int64} {S : Int64 → Prop} {c : Int32} {w : Int64} {g : Nat → Int32} (h : BkM i F G S) (hc : c.toInt = (i 78 0).toInt + 1) (h8 : (i 78 0).toInt < 8) : BkM (up2 (up2 i 78 0 c) 78 15 0) (va_up F 80 g) (va_up G 79 (vp_updL (G 79) (i 78 0).toNatClampNeg w)) (fun x => S x ∨ x = w) := by
  obtain ⟨⟨r1, r2, r3, r4, r5⟩, hS⟩ := h
  refine ⟨⟨⟨by show 0 ≤ c.toInt; omega, by show c.toInt ≤ 8; omega⟩, r2, r3, r4, r5⟩, fun x => ?_⟩
  show (S x ∨ x = w) ↔ ((sT c (vp_updL (G 79) (i 78 0).toNatClampNeg w) x ∨ sP (i 78 3) (F 81) (F 82) x) ∨ sT (i 78 6) (G 83) x) ∨ sI (i 78 8) (F 84) x
  rw [sT_up (by omega) hc, ← or4, hS x]
  rfl
theorem BkM.cl {i F : Nat → Nat → Int32} {G : Nat → Nat → Int64} {S : Int64 → Prop} {c : Int32} {w : Int64} (h : BkM i F G S) (hc : c.toInt = (i 78 6).toInt + 1) (h8 : (i 78 6).toInt < 4) : BkM (up2 (up2 i 78 6 c) 78 15 0) F (va_up G 83 (vp_updL (G 83) (i 78 6).toNatClampNeg w)) (fun x => S x ∨ x = w) := by
  obtain ⟨⟨r1, r2, r3, r4, r5⟩, hS⟩ := h
  refine ⟨⟨r1, r2, ⟨by show 0 ≤ c.toInt; omega, by show c.toInt ≤ 4; omega⟩, r4, r5⟩, fun x => ?_⟩
  show (S x ∨ x = w) ↔ ((sT (i 78 0) (G 79) x ∨ sP (i 78 3) (F 81) (F 82) x) ∨ sT c (vp_updL (G 83) (i 78 6).toNatClampNeg w) x) ∨ sI (i 78 8) (F 84) x
  rw [sT_up (by omega) hc, ← or4c, hS x]
  rfl
theorem BkM.go {i F : Nat → Nat → Int32} {G : Nat → Nat → Int64} {S : Int64 → Prop} {c w : Int32} (h : BkM i F G S) (hc : c.toInt = (i 78 8).toInt + 1) (h8 : (i 78 8).toInt < 4) : BkM (up2 (up2 i 78 8 c) 78 15 0) (va_up F 84 (upd (F 84) (i 78 8).toNatClampNeg w)) G (fun x => S x ∨ x = w.toInt64) := by
  obtain ⟨⟨r1, r2, r3, r4, r5⟩, hS⟩ := h
  refine ⟨⟨r1, r2, r3, ⟨by show 0 ≤ c.toInt; omega, by show c.toInt ≤ 4; omega⟩, r5⟩, fun x => ?_⟩
  show (S x ∨ x = w.toInt64) ↔ ((sT (i 78 0) (G 79) x ∨ sP (i 78 3) (F 81) (F 82) x) ∨ sT (i 78 6) (G 83) x) ∨ sI c (upd (F 84) (i 78 8).toNatClampNeg w) x
  rw [sI_up (by omega) hc, ← or_assoc, hS x]
  rfl
theorem BkM.pr {i F : Nat → Nat → Int32} {G : Nat → Nat → Int64} {S : Int64 → Prop} {c v w : Int32} (h : BkM i F G S) (hc : c.toInt = (i 78 3).toInt + 1) (h8 : (i 78 3).toInt < 4) : BkM (up2 (up2 i 78 3 c) 78 15 0) (va_up (va_up F 81 (upd (F 81) (i 78 3).toNatClampNeg v)) 82 (upd (F 82) (i 78 3).toNatClampNeg w)) G (fun x => S x ∨ (x = v.toInt64 ∨ x = w.toInt64)) := by
  obtain ⟨⟨r1, r2, r3, r4, r5⟩, hS⟩ := h
  refine ⟨⟨r1, ⟨by show 0 ≤ c.toInt; omega, by show c.toInt ≤ 4; omega⟩, r3, r4, r5⟩, fun x => ?_⟩
  show (S x ∨ (x = v.toInt64 ∨ x = w.toInt64)) ↔ ((sT (i 78 0) (G 79) x ∨ sP c (upd (F 81) (i 78 3).toNatClampNeg v) (upd (F 82) (i 78 3).toNatClampNeg w) x) ∨ sT (i 78 6) (G 83) x) ∨ sI (i 78 8) (F 84) x
  rw [sP_up (by omega) hc, ← or4b, hS x]
  rfl
theorem it0 {r : Int32} {P : Prop} (h : r = 0 ∨ r = 1) (hi : r = 1 ↔ P) : Int32.toInt r = Int32.toInt 0 ↔ ¬ P := by
  rcases h with rfl | rfl
  · exact ⟨fun _ q => absurd (hi.mpr q) (by decide), fun _ => rfl⟩
  · exact ⟨fun q => absurd q (by decide), fun q => absurd (hi.mp rfl) q⟩
