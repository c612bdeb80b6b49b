/-! what holds between two calls of the law -/
def LC (u : XS) (S : Int64 → Prop) : Prop := IC u.1 u.2.1 ∧ BkC u.1 u.2.1 u.2.2 S
def LM (u : XS) (S : Int64 → Prop) : Prop := IMm u.1 u.2.1 ∧ BkM u.1 u.2.1 u.2.2 S
def CE (u v : XS) : Prop := u.1 1 3 = v.1 78 0 ∧ u.1 1 4 = v.1 78 3 ∧ u.1 1 5 = v.1 78 6 ∧ u.1 1 6 = v.1 78 8 ∧ u.1 1 7 = v.1 78 10
def LI (u v : XS) : Prop := ∃ S, LC u S ∧ LM v S ∧ CE u v
def bkf : List Nat := [0, 3, 6, 8, 10]
theorem LC.td {u : XS} {S : Int64 → Prop} (h : LC u S) : 0 ≤ (u.1 1 2).toInt ∧ (u.1 1 2).toInt ≤ 24 := by
  have h1 := h.2.1
  have h2 := h.2.2.1
  omega
theorem LM.br {u : XS} {S : Int64 → Prop} (h : LM u S) : BR u.1 := h.2.1
theorem LC.sb {i F : Nat → Nat → Int32} {G : Nat → Nat → Int64} {u : XS} {S : Int64 → Prop} (h : LC (i, F, G) S) (hp : IC u.1 u.2.1 ∧ u.1 1 = i 1 ∧ u.2.1 3 = F 3 ∧ u.2.2 = G) : LC u S ∧ u.1 1 = i 1 := ⟨⟨hp.1, BkC.bs h.2 hp.2⟩, hp.2.1⟩
theorem LC.pu {i F : Nat → Nat → Int32} {G : Nat → Nat → Int64} {u : XS} {S : Int64 → Prop} (h : LC (i, F, G) S) (hp : u = (i, F, G) ∧ True) : LC u S ∧ u.1 1 = i 1 := by
  rw [hp.1]
  exact ⟨h, rfl⟩
theorem BkM.ro {A B : List Nat} {i F i2 F2 : Nat → Nat → Int32} {G G2 : Nat → Nat → Int64} {S : Int64 → Prop} (h : BkM i F G S) (hon : RO A B i F G (i2, F2, G2)) (hA : ∀ j ∈ bkf, ¬ j ∈ A) (hB : ∀ k ∈ ([79, 81, 82, 83, 84] : List Nat), ¬ k ∈ B) : BkM i2 F2 G2 S := by
  have ei : ∀ j ∈ bkf, i2 78 j = i 78 j := fun j hj => hon.1 78 j (Or.inr (hA j hj))
  have ef : ∀ k ∈ ([79, 81, 82, 83, 84] : List Nat), F2 k = F k ∧ G2 k = G k := fun k hk => hon.2 k (hB k hk)
  unfold BkM sM at h ⊢
  rw [ei 0 (by decide), ei 3 (by decide), ei 6 (by decide), ei 8 (by decide), ei 10 (by decide), (ef 79 (by decide)).2, (ef 81 (by decide)).1, (ef 82 (by decide)).1, (ef 83 (by decide)).2, (ef 84 (by decide)).1]
  exact h
theorem LM.mp {A B : List Nat} {i F : Nat → Nat → Int32} {G : Nat → Nat → Int64} {u : XS} {S : Int64 → Prop} (h : LM (i, F, G) S) (hA : ∀ j ∈ bkf, ¬ j ∈ A) (hB : ∀ k ∈ ([79, 81, 82, 83, 84] : List Nat), ¬ k ∈ B) (hI : IMm u.1 u.2.1) (hon : RO A B i F G u) : LM u S ∧ ∀ f ∈ bkf, u.1 78 f = i 78 f := by
  obtain ⟨i2, F2, G2⟩ := u
  exact ⟨⟨hI, BkM.ro h.2 hon hA hB⟩, fun f hf => hon.1 78 f (Or.inr (hA f hf))⟩
theorem LM.pu {i F : Nat → Nat → Int32} {G : Nat → Nat → Int64} {u : XS} {S : Int64 → Prop} (h : LM (i, F, G) S) (hp : u = (i, F, G) ∧ True) : LM u S ∧ ∀ f ∈ bkf, u.1 78 f = i 78 f := by
  rw [hp.1]
  exact ⟨h, fun _ _ => rfl⟩
theorem LM.tx {i F : Nat → Nat → Int32} {G : Nat → Nat → Int64} {u : XS} {S : Int64 → Prop} (h : LM (i, F, G) S) (hp : RO [12, 15] [85] i F G u ∧ (0 ≤ (u.1 78 12).toInt ∧ (u.1 78 12).toInt ≤ 600) ∧ BT (u.2.1 85) ∧ (u.1 78 15 = i 78 15 ∨ u.1 78 15 = 0)) : LM u S ∧ ∀ f ∈ bkf, u.1 78 f = i 78 f := by
  obtain ⟨i2, F2, G2⟩ := u
  exact LM.mp h (by decide) (by decide) (IMs.m (IMs.tx (IMm.s h.1) hp.1 hp.2.1 hp.2.2.1 hp.2.2.2)) hp.1
theorem LM.kt {i F : Nat → Nat → Int32} {G : Nat → Nat → Int64} {u : XS} {S : Int64 → Prop} (h : LM (i, F, G) S) (hp : RO [14] [86] i F G u ∧ (0 ≤ (u.1 78 14).toInt ∧ (u.1 78 14).toInt ≤ 600)) : LM u S ∧ ∀ f ∈ bkf, u.1 78 f = i 78 f := by
  obtain ⟨i2, F2, G2⟩ := u
  exact LM.mp h (by decide) (by decide) (IMs.m (IMs.kt (IMm.s h.1) hp.1 hp.2)) hp.1
theorem LM.bk {A B : List Nat} {i F : Nat → Nat → Int32} {G : Nat → Nat → Int64} {u : XS} {S : Int64 → Prop} (h : LM (i, F, G) S) (hA : ∀ j ∈ ([12, 14, 17, 19, 32, 40, 54, 78] : List Nat), ¬ j ∈ A) (hB : ∀ k ∈ tcs, ¬ k ∈ B) (hB2 : ∀ k ∈ ([122, 123, 124] : List Nat), ¬ k ∈ B) (hon : RO A B i F G u) (hs : u.1 78 15 = i 78 15 ∨ u.1 78 15 = 0) : IMm u.1 u.2.1 := by
  obtain ⟨i2, F2, G2⟩ := u
  exact IMs.m (IMs.ro2 (IMm.s h.1) hon hA hB hB2 hs)
theorem LI.a {i F j K : Nat → Nat → Int32} {G L : Nat → Nat → Int64} {u v : XS} {S : Int64 → Prop} (e : CE (i, F, G) (j, K, L)) (h : LC u S ∧ u.1 1 = i 1) (g : LM v S ∧ ∀ f ∈ bkf, v.1 78 f = j 78 f) : LI u v := by
  obtain ⟨e1, e2, e3, e4, e5⟩ := e
  have q := h.2
  refine ⟨S, h.1, g.1, ?_, ?_, ?_, ?_, ?_⟩
  · rw [q, g.2 0 (by decide)]; exact e1
  · rw [q, g.2 3 (by decide)]; exact e2
  · rw [q, g.2 6 (by decide)]; exact e3
  · rw [q, g.2 8 (by decide)]; exact e4
  · rw [q, g.2 10 (by decide)]; exact e5
theorem mkseq {x r r2 : Int32} (h : (x.toInt < 0 ∧ r = -13) ∨ (200 < x.toInt ∧ r = -2) ∨ ((0 ≤ x.toInt ∧ x.toInt ≤ 200) ∧ r = x)) (g : (x.toInt < 0 ∧ r2 = -13) ∨ (200 < x.toInt ∧ r2 = -2) ∨ ((0 ≤ x.toInt ∧ x.toInt ≤ 200) ∧ r2 = x)) : r = r2 := by
  rcases h with ⟨a, rfl⟩ | ⟨a, rfl⟩ | ⟨a, rfl⟩ <;> rcases g with ⟨c, rfl⟩ | ⟨c, rfl⟩ | ⟨c, rfl⟩ <;> first | rfl | omega
theorem LI.op {i F j K : Nat → Nat → Int32} {G L : Nat → Nat → Int64} {u v : XS} {S : Int64 → Prop} {bad dup : Prop} {add : Int64 → Prop} {r r2 : Int32} (e : CE (i, F, G) (j, K, L)) (g : LM (j, K, L) S) (hp : IC u.1 u.2.1 ∧ (∃ S2, tlR bad dup (i 1 3) 8 S S2 add r (u.1 1 3) ∧ BkC u.1 u.2.1 u.2.2 S2) ∧ (u.1 1 4 = i 1 4 ∧ u.1 1 5 = i 1 5 ∧ u.1 1 6 = i 1 6 ∧ u.1 1 7 = i 1 7)) (hq : RO [0, 15] [79, 80] j K L v ∧ (∃ S2, tlR bad dup (j 78 0) 8 S S2 add r2 (v.1 78 0) ∧ BkM v.1 v.2.1 v.2.2 S2) ∧ (v.1 78 15 = j 78 15 ∨ v.1 78 15 = 0)) : r = r2 ∧ LI u v := by
  obtain ⟨e3, e4, e5, e6, e7⟩ := e
  obtain ⟨p1, ⟨S2, p2, p3⟩, c4, c5, c6, c7⟩ := hp
  obtain ⟨q1, ⟨S3, q2, q3⟩, q4⟩ := hq
  have e3 : i 1 3 = j 78 0 := e3
  rw [e3] at p2
  obtain ⟨w1, w2, w3⟩ := p2.fn q2
  subst w3
  have hIM := LM.bk g (by decide) (by decide) (by decide) q1 q4
  exact ⟨w1, S2, ⟨p1, p3⟩, ⟨hIM, q3⟩, w2, by rw [c4, show v.1 78 3 = j 78 3 from q1.1 78 3 (Or.inr (by decide))]; exact e4, by rw [c5, show v.1 78 6 = j 78 6 from q1.1 78 6 (Or.inr (by decide))]; exact e5, by rw [c6, show v.1 78 8 = j 78 8 from q1.1 78 8 (Or.inr (by decide))]; exact e6, by rw [c7, show v.1 78 10 = j 78 10 from q1.1 78 10 (Or.inr (by decide))]; exact e7⟩
theorem LI.pr {i F j K : Nat → Nat → Int32} {G L : Nat → Nat → Int64} {u v : XS} {S : Int64 → Prop} {bad dup : Prop} {add : Int64 → Prop} {r r2 : Int32} (e : CE (i, F, G) (j, K, L)) (g : LM (j, K, L) S) (hp : IC u.1 u.2.1 ∧ (∃ S2, tlR bad dup (i 1 4) 4 S S2 add r (u.1 1 4) ∧ BkC u.1 u.2.1 u.2.2 S2) ∧ (u.1 1 3 = i 1 3 ∧ u.1 1 5 = i 1 5 ∧ u.1 1 6 = i 1 6 ∧ u.1 1 7 = i 1 7)) (hq : RO [3, 15] [81, 82] j K L v ∧ (∃ S2, tlR bad dup (j 78 3) 4 S S2 add r2 (v.1 78 3) ∧ BkM v.1 v.2.1 v.2.2 S2) ∧ (v.1 78 15 = j 78 15 ∨ v.1 78 15 = 0)) : r = r2 ∧ LI u v := by
  obtain ⟨e3, e4, e5, e6, e7⟩ := e
  obtain ⟨p1, ⟨S2, p2, p3⟩, c3, c5, c6, c7⟩ := hp
  obtain ⟨q1, ⟨S3, q2, q3⟩, q4⟩ := hq
  have e4 : i 1 4 = j 78 3 := e4
  rw [e4] at p2
  obtain ⟨w1, w2, w3⟩ := p2.fn q2
  subst w3
  have hIM := LM.bk g (by decide) (by decide) (by decide) q1 q4
  exact ⟨w1, S2, ⟨p1, p3⟩, ⟨hIM, q3⟩, by rw [c3, show v.1 78 0 = j 78 0 from q1.1 78 0 (Or.inr (by decide))]; exact e3, w2, by rw [c5, show v.1 78 6 = j 78 6 from q1.1 78 6 (Or.inr (by decide))]; exact e5, by rw [c6, show v.1 78 8 = j 78 8 from q1.1 78 8 (Or.inr (by decide))]; exact e6, by rw [c7, show v.1 78 10 = j 78 10 from q1.1 78 10 (Or.inr (by decide))]; exact e7⟩
theorem LI.cl {i F j K : Nat → Nat → Int32} {G L : Nat → Nat → Int64} {u v : XS} {S : Int64 → Prop} {bad dup : Prop} {add : Int64 → Prop} {r r2 : Int32} (e : CE (i, F, G) (j, K, L)) (g : LM (j, K, L) S) (hp : IC u.1 u.2.1 ∧ (∃ S2, tlR bad dup (i 1 5) 4 S S2 add r (u.1 1 5) ∧ BkC u.1 u.2.1 u.2.2 S2) ∧ (u.1 1 3 = i 1 3 ∧ u.1 1 4 = i 1 4 ∧ u.1 1 6 = i 1 6 ∧ u.1 1 7 = i 1 7)) (hq : RO [6, 15] [83] j K L v ∧ (∃ S2, tlR bad dup (j 78 6) 4 S S2 add r2 (v.1 78 6) ∧ BkM v.1 v.2.1 v.2.2 S2) ∧ (v.1 78 15 = j 78 15 ∨ v.1 78 15 = 0)) : r = r2 ∧ LI u v := by
  obtain ⟨e3, e4, e5, e6, e7⟩ := e
  obtain ⟨p1, ⟨S2, p2, p3⟩, c3, c4, c6, c7⟩ := hp
  obtain ⟨q1, ⟨S3, q2, q3⟩, q4⟩ := hq
  have e5 : i 1 5 = j 78 6 := e5
  rw [e5] at p2
  obtain ⟨w1, w2, w3⟩ := p2.fn q2
  subst w3
  have hIM := LM.bk g (by decide) (by decide) (by decide) q1 q4
  exact ⟨w1, S2, ⟨p1, p3⟩, ⟨hIM, q3⟩, by rw [c3, show v.1 78 0 = j 78 0 from q1.1 78 0 (Or.inr (by decide))]; exact e3, by rw [c4, show v.1 78 3 = j 78 3 from q1.1 78 3 (Or.inr (by decide))]; exact e4, w2, by rw [c6, show v.1 78 8 = j 78 8 from q1.1 78 8 (Or.inr (by decide))]; exact e6, by rw [c7, show v.1 78 10 = j 78 10 from q1.1 78 10 (Or.inr (by decide))]; exact e7⟩
theorem LI.go {i F j K : Nat → Nat → Int32} {G L : Nat → Nat → Int64} {u v : XS} {S : Int64 → Prop} {bad dup : Prop} {add : Int64 → Prop} {r r2 : Int32} (e : CE (i, F, G) (j, K, L)) (g : LM (j, K, L) S) (hp : IC u.1 u.2.1 ∧ (∃ S2, tlR bad dup (i 1 6) 4 S S2 add r (u.1 1 6) ∧ BkC u.1 u.2.1 u.2.2 S2) ∧ (u.1 1 3 = i 1 3 ∧ u.1 1 4 = i 1 4 ∧ u.1 1 5 = i 1 5 ∧ u.1 1 7 = i 1 7)) (hq : RO [8, 15] [84] j K L v ∧ (∃ S2, tlR bad dup (j 78 8) 4 S S2 add r2 (v.1 78 8) ∧ BkM v.1 v.2.1 v.2.2 S2) ∧ (v.1 78 15 = j 78 15 ∨ v.1 78 15 = 0)) : r = r2 ∧ LI u v := by
  obtain ⟨e3, e4, e5, e6, e7⟩ := e
  obtain ⟨p1, ⟨S2, p2, p3⟩, c3, c4, c5, c7⟩ := hp
  obtain ⟨q1, ⟨S3, q2, q3⟩, q4⟩ := hq
  have e6 : i 1 6 = j 78 8 := e6
  rw [e6] at p2
  obtain ⟨w1, w2, w3⟩ := p2.fn q2
  subst w3
  have hIM := LM.bk g (by decide) (by decide) (by decide) q1 q4
  exact ⟨w1, S2, ⟨p1, p3⟩, ⟨hIM, q3⟩, by rw [c3, show v.1 78 0 = j 78 0 from q1.1 78 0 (Or.inr (by decide))]; exact e3, by rw [c4, show v.1 78 3 = j 78 3 from q1.1 78 3 (Or.inr (by decide))]; exact e4, by rw [c5, show v.1 78 6 = j 78 6 from q1.1 78 6 (Or.inr (by decide))]; exact e5, w2, by rw [c7, show v.1 78 10 = j 78 10 from q1.1 78 10 (Or.inr (by decide))]; exact e7⟩
theorem LI.tb {i F j K : Nat → Nat → Int32} {G L : Nat → Nat → Int64} {u v : XS} {S : Int64 → Prop} {x r r2 : Int32} (e : CE (i, F, G) (j, K, L)) (g : LM (j, K, L) S) (hp : IC u.1 u.2.1 ∧ ((¬ (0 ≤ x.toInt ∧ x.toInt ≤ 8) ∧ r = -2 ∧ u.1 1 7 = i 1 7) ∨ ((0 ≤ x.toInt ∧ x.toInt ≤ 8) ∧ r = i 1 7 ∧ u.1 1 7 = x)) ∧ BkC u.1 u.2.1 u.2.2 S ∧ (u.1 1 3 = i 1 3 ∧ u.1 1 4 = i 1 4 ∧ u.1 1 5 = i 1 5 ∧ u.1 1 6 = i 1 6)) (hq : RO [10, 15] [] j K L v ∧ ((¬ (0 ≤ x.toInt ∧ x.toInt ≤ 8) ∧ r2 = -2 ∧ v.1 78 10 = j 78 10) ∨ ((0 ≤ x.toInt ∧ x.toInt ≤ 8) ∧ r2 = j 78 10 ∧ v.1 78 10 = x)) ∧ BkM v.1 v.2.1 v.2.2 S ∧ (v.1 78 15 = j 78 15 ∨ v.1 78 15 = 0)) : r = r2 ∧ LI u v := by
  obtain ⟨e3, e4, e5, e6, e7⟩ := e
  have e7 : i 1 7 = j 78 10 := e7
  obtain ⟨p1, p2, p3, c3, c4, c5, c6⟩ := hp
  obtain ⟨q1, q2, q3, q4⟩ := hq
  have hIM := LM.bk g (by decide) (by decide) (by decide) q1 q4
  obtain ⟨w1, w2⟩ : r = r2 ∧ u.1 1 7 = v.1 78 10 := by
    rcases p2 with ⟨a, a1, a2⟩ | ⟨a, a1, a2⟩ <;> rcases q2 with ⟨d, d1, d2⟩ | ⟨d, d1, d2⟩
    · exact ⟨a1.trans d1.symm, by rw [a2, d2]; exact e7⟩
    · exact absurd d a
    · exact absurd a d
    · exact ⟨by rw [a1, d1]; exact e7, a2.trans d2.symm⟩
  exact ⟨w1, S, ⟨p1, p3⟩, ⟨hIM, q3⟩, by rw [c3, show v.1 78 0 = j 78 0 from q1.1 78 0 (Or.inr (by decide))]; exact e3, by rw [c4, show v.1 78 3 = j 78 3 from q1.1 78 3 (Or.inr (by decide))]; exact e4, by rw [c5, show v.1 78 6 = j 78 6 from q1.1 78 6 (Or.inr (by decide))]; exact e5, by rw [c6, show v.1 78 8 = j 78 8 from q1.1 78 8 (Or.inr (by decide))]; exact e6, w2⟩
