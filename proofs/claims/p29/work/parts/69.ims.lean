def tcs : List Nat := [85, 89, 90, 92, 95, 97, 98, 99, 100, 101, 102, 103, 104, 105, 106, 107, 108, 109, 110, 111, 112, 113]
def IMs (s : Nat) (i F : Nat → Nat → Int32) : Prop := (0 ≤ (i 78 12).toInt ∧ (i 78 12).toInt ≤ 600) ∧ BT (F 85) ∧ (0 ≤ (i 78 14).toInt ∧ (i 78 14).toInt ≤ 600) ∧ i 78 17 = nI s ∧ TKm i F ∧ CB F ∧ WA F ∧ (0 ≤ (i 78 54).toInt ∧ (i 78 54).toInt ≤ 4000) ∧ (0 ≤ (i 78 78).toInt ∧ (i 78 78).toInt ≤ 200) ∧ ((i 78 15).toInt = 1 → GTm i F) ∧ TA (F 122) (F 123) ∧ inR (F 124) 0 1202
theorem IMm.s {i F : Nat → Nat → Int32} (h : IMm i F) : IMs 85 i F := h
theorem IMs.m {i F : Nat → Nat → Int32} (h : IMs 85 i F) : IMm i F := h
theorem IMs.lin {s : Nat} {i F : Nat → Nat → Int32} (h : IMs s i F) : (0 ≤ (i 78 12).toInt ∧ (i 78 12).toInt ≤ 600) ∧ (0 ≤ (i 78 14).toInt ∧ (i 78 14).toInt ≤ 600) ∧ (0 ≤ (i 78 54).toInt ∧ (i 78 54).toInt ≤ 4000) ∧ (0 ≤ (i 78 78).toInt ∧ (i 78 78).toInt ≤ 200) ∧ (0 ≤ (i 78 19).toInt ∧ (i 78 19).toInt ≤ 600) := ⟨h.1, h.2.2.1, h.2.2.2.2.2.2.2.1, h.2.2.2.2.2.2.2.2.1, h.2.2.2.2.1.1⟩
theorem IMs.bt {s : Nat} {i F : Nat → Nat → Int32} (h : IMs s i F) : BT (F 85) := h.2.1
theorem IMs.src {s : Nat} {i F : Nat → Nat → Int32} (h : IMs s i F) : i 78 17 = nI s := h.2.2.2.1
theorem IMs.tk {s : Nat} {i F : Nat → Nat → Int32} (h : IMs s i F) : TKm i F := h.2.2.2.2.1
theorem IMs.cb {s : Nat} {i F : Nat → Nat → Int32} (h : IMs s i F) : CB F := h.2.2.2.2.2.1
theorem IMs.wa {s : Nat} {i F : Nat → Nat → Int32} (h : IMs s i F) : WA F := h.2.2.2.2.2.2.1
theorem IMs.gt {s : Nat} {i F : Nat → Nat → Int32} (h : IMs s i F) : (i 78 15).toInt = 1 → GTm i F := h.2.2.2.2.2.2.2.2.2.1
theorem IMs.ka {s : Nat} {i F : Nat → Nat → Int32} (h : IMs s i F) : TA (F 122) (F 123) := h.2.2.2.2.2.2.2.2.2.2.1
theorem IMs.ki {s : Nat} {i F : Nat → Nat → Int32} (h : IMs s i F) : inR (F 124) 0 1202 := h.2.2.2.2.2.2.2.2.2.2.2
theorem tcs_m {k : Nat} (h1 : 95 ≤ k) (h2 : k < 96 ∨ 98 ≤ k) (h3 : k < 114) : k ∈ tcs := by
  unfold tcs
  simp only [List.mem_cons, List.not_mem_nil, or_false]
  omega
theorem GTm.ro {A B : List Nat} {i F i2 F2 : Nat → Nat → Int32} {G G2 : Nat → Nat → Int64} (h : GTm i F) (hon : RO A B i F G (i2, F2, G2)) (hA : ∀ j ∈ ([32, 40] : List Nat), ¬ j ∈ A) (hB : ∀ k ∈ tcs, ¬ k ∈ B) : GTm i2 F2 := by
  have e1 : i2 78 32 = i 78 32 := hon.1 78 32 (Or.inr (hA 32 (by decide)))
  have e2 : i2 78 40 = i 78 40 := hon.1 78 40 (Or.inr (hA 40 (by decide)))
  refine GTm.cg h ⟨by rw [e1]; exact h.2.2.1, by rw [e1]; exact Int.le_refl _⟩ ⟨by rw [e2]; exact h.2.2.2, by rw [e2]; exact Int.le_refl _⟩ (fun k a1 a2 a3 => ?_)
  exact (hon.2 k (hB k (tcs_m a1 a2 a3))).1
theorem IMs.ro2 {s : Nat} {A B : List Nat} {i F i2 F2 : Nat → Nat → Int32} {G G2 : Nat → Nat → Int64} (h : IMs s i F) (hon : RO A B i F G (i2, F2, G2)) (hA : ∀ j ∈ ([12, 14, 17, 19, 32, 40, 54, 78] : List Nat), ¬ j ∈ A) (hB : ∀ k ∈ tcs, ¬ k ∈ B) (hB2 : ∀ k ∈ ([122, 123, 124] : List Nat), ¬ k ∈ B) (hst : i2 78 15 = i 78 15 ∨ i2 78 15 = 0) : IMs s i2 F2 := by
  have ei : ∀ j ∈ ([12, 14, 17, 19, 32, 40, 54, 78] : List Nat), i2 78 j = i 78 j := fun j hj => hon.1 78 j (Or.inr (hA j hj))
  have ef : ∀ k ∈ tcs, F2 k = F k := fun k hk => (hon.2 k (hB k hk)).1
  have eg : ∀ k ∈ ([122, 123, 124] : List Nat), F2 k = F k := fun k hk => (hon.2 k (hB2 k hk)).1
  obtain ⟨h1, h2, h3, h4, h5, h6, h7, h8, h9, h10, h11, h12⟩ := h
  refine ⟨by rw [ei 12 (by decide)]; exact h1, by rw [ef 85 (by decide)]; exact h2, by rw [ei 14 (by decide)]; exact h3, by rw [ei 17 (by decide)]; exact h4, TKm.ro h5 hon ⟨hA 19 (by decide), hB 89 (by decide), hB 90 (by decide), hB 92 (by decide)⟩, CB.ro h6 hon (hB 97 (by decide)), WA.ro h7 hon ⟨hB 95 (by decide), hB 100 (by decide), hB 105 (by decide)⟩, by rw [ei 54 (by decide)]; exact h8, by rw [ei 78 (by decide)]; exact h9, fun w => ?_, by rw [eg 122 (by decide), eg 123 (by decide)]; exact h11, by rw [eg 124 (by decide)]; exact h12⟩
  rcases hst with q | q
  · rw [q] at w
    exact GTm.ro (h10 w) hon (fun j hj => hA j (by revert j; decide)) hB
  · rw [q] at w
    exact absurd w (by decide)
theorem IMs.ro {s : Nat} {A B : List Nat} {i F i2 F2 : Nat → Nat → Int32} {G G2 : Nat → Nat → Int64} (h : IMs s i F) (hon : RO A B i F G (i2, F2, G2)) (hA : ∀ j ∈ ([12, 14, 15, 17, 19, 32, 40, 54, 78] : List Nat), ¬ j ∈ A) (hB : ∀ k ∈ tcs, ¬ k ∈ B) (hB2 : ∀ k ∈ ([122, 123, 124] : List Nat), ¬ k ∈ B) : IMs s i2 F2 :=
  IMs.ro2 h hon (fun j hj => hA j (by revert j; decide)) hB hB2 (Or.inl (hon.1 78 15 (Or.inr (hA 15 (by decide)))))
/-- the text has changed -/
theorem IMs.tx {s : Nat} {i F i2 F2 : Nat → Nat → Int32} {G G2 : Nat → Nat → Int64} (h : IMs s i F) (hon : RO [12, 15] [85] i F G (i2, F2, G2)) (hsz : 0 ≤ (i2 78 12).toInt ∧ (i2 78 12).toInt ≤ 600) (hbt : BT (F2 85)) (hst : i2 78 15 = i 78 15 ∨ i2 78 15 = 0) : IMs s i2 F2 := by
  have ei : ∀ j ∈ ([14, 17, 19, 32, 40, 54, 78] : List Nat), i2 78 j = i 78 j := fun j hj => hon.1 78 j (Or.inr (by revert j; decide))
  have eg : ∀ k ∈ ([122, 123, 124] : List Nat), F2 k = F k := fun k hk => (hon.2 k (by revert k; decide)).1
  obtain ⟨h1, h2, h3, h4, h5, h6, h7, h8, h9, h10, h11, h12⟩ := h
  refine ⟨hsz, hbt, by rw [ei 14 (by decide)]; exact h3, by rw [ei 17 (by decide)]; exact h4, TKm.ro h5 hon (by decide), CB.ro h6 hon (by decide), WA.ro h7 hon (by decide), by rw [ei 54 (by decide)]; exact h8, by rw [ei 78 (by decide)]; exact h9, fun w => ?_, by rw [eg 122 (by decide), eg 123 (by decide)]; exact h11, by rw [eg 124 (by decide)]; exact h12⟩
  rcases hst with q | q
  · rw [q] at w
    have hg := h10 w
    have e1 := ei 32 (by decide)
    have e2 := ei 40 (by decide)
    refine GTm.cg hg ⟨by rw [e1]; exact hg.2.2.1, by rw [e1]; exact Int.le_refl _⟩ ⟨by rw [e2]; exact hg.2.2.2, by rw [e2]; exact Int.le_refl _⟩ (fun k a1 a2 a3 => (hon.2 k (fun m => ?_)).1)
    simp only [List.mem_cons, List.not_mem_nil, or_false] at m
    omega
  · rw [q] at w
    exact absurd w (by decide)
/-- the text is kept -/
theorem IMs.kt {s : Nat} {i F i2 F2 : Nat → Nat → Int32} {G G2 : Nat → Nat → Int64} (h : IMs s i F) (hon : RO [14] [86] i F G (i2, F2, G2)) (hsz : 0 ≤ (i2 78 14).toInt ∧ (i2 78 14).toInt ≤ 600) : IMs s i2 F2 := by
  have ei : ∀ j ∈ ([12, 15, 17, 19, 32, 40, 54, 78] : List Nat), i2 78 j = i 78 j := fun j hj => hon.1 78 j (Or.inr (by revert j; decide))
  have eg : ∀ k ∈ ([85, 122, 123, 124] : List Nat), F2 k = F k := fun k hk => (hon.2 k (by revert k; decide)).1
  obtain ⟨h1, h2, h3, h4, h5, h6, h7, h8, h9, h10, h11, h12⟩ := h
  exact ⟨by rw [ei 12 (by decide)]; exact h1, by rw [eg 85 (by decide)]; exact h2, hsz, by rw [ei 17 (by decide)]; exact h4, TKm.ro h5 hon (by decide), CB.ro h6 hon (by decide), WA.ro h7 hon (by decide), by rw [ei 54 (by decide)]; exact h8, by rw [ei 78 (by decide)]; exact h9, fun w => GTm.ro (h10 (by rw [← ei 15 (by decide)]; exact w)) hon (by decide) (by decide), by rw [eg 122 (by decide), eg 123 (by decide)]; exact h11, by rw [eg 124 (by decide)]; exact h12⟩
/-- a token's row is kept -/
theorem IMs.kp {s n : Nat} {i F F2 : Nat → Nat → Int32} {G G2 : Nat → Nat → Int64} (h : IMs s i F) (hon : RO [] [122, 123, 124] i F G (i, F2, G2)) (e1 : F2 122 = upd (F 122) n (F 89 n)) (e2 : F2 123 = upd (F 123) n (F 90 n)) (e3 : F2 124 = upd (F 124) n (F 95 n)) : IMs s i F2 := by
  obtain ⟨h1, h2, h3, h4, h5, h6, h7, h8, h9, h10, h11, h12⟩ := h
  exact ⟨h1, by rw [show F2 85 = F 85 from (hon.2 85 (by decide)).1]; exact h2, h3, h4, TKm.ro h5 hon (by decide), CB.ro h6 hon (by decide), WA.ro h7 hon (by decide), h8, h9, fun w => GTm.ro (h10 w) hon (by decide) (by decide), by rw [e1, e2]; exact h11.up (h5.2.1 n), by rw [e3]; exact h12.up (h7.2.2 n).1 (h7.2.2 n).2⟩
/-- after a reading -/
theorem GTm.ra {i F i2 F2 : Nat → Nat → Int32} {r : Int32} (h : GTm i F) (hTM : TMm i2 F2) (hgt : 1 ≤ (i2 78 32).toInt ∨ (r = 0 ∧ (i2 78 32).toInt = 0 ∧ (i2 78 40).toInt = 0 ∧ ∀ k : Nat, 95 ≤ k → (k < 96 ∨ 98 ≤ k) → F2 k = F k)) : GTm i2 F2 := by
  rcases hgt with q | ⟨-, q1, q2, q3⟩
  · exact GTm.of hTM q
  · have := h.2.2.1
    have := h.2.2.2
    exact GTm.cg h ⟨by omega, by omega⟩ ⟨by omega, by omega⟩ (fun k h1 h2 _ => q3 k h1 h2)
theorem IMs.ra {s S : Nat} {A B : List Nat} {i F i2 F2 : Nat → Nat → Int32} {G G2 : Nat → Nat → Int64} (h : IMs s i F) (hon : RO A B i F G (i2, F2, G2)) (hA : ∀ j ∈ ([12, 14, 54, 78] : List Nat), ¬ j ∈ A) (hB : ∀ k ∈ ([85, 122, 123, 124] : List Nat), ¬ k ∈ B) (hTK : TKm i2 F2) (hTM : TMm i2 F2) (hCB : CB F2) (hsrc : i2 78 17 = nI S) (hG : (i2 78 15).toInt = 1 → GTm i2 F2) : IMs S i2 F2 := by
  have ei : ∀ j ∈ ([12, 14, 54, 78] : List Nat), i2 78 j = i 78 j := fun j hj => hon.1 78 j (Or.inr (hA j hj))
  have eg : ∀ k ∈ ([85, 122, 123, 124] : List Nat), F2 k = F k := fun k hk => (hon.2 k (hB k hk)).1
  obtain ⟨h1, h2, h3, h4, h5, h6, h7, h8, h9, h10, h11, h12⟩ := h
  exact ⟨by rw [ei 12 (by decide)]; exact h1, by rw [eg 85 (by decide)]; exact h2, by rw [ei 14 (by decide)]; exact h3, hsrc, hTK, hCB, TMm.wa hTM, by rw [ei 54 (by decide)]; exact h8, by rw [ei 78 (by decide)]; exact h9, hG, by rw [eg 122 (by decide), eg 123 (by decide)]; exact h11, by rw [eg 124 (by decide)]; exact h12⟩
theorem LA.le {f : Nat → Int32} {x : Int} {r n : Nat} (h : LA f x r) (hn : r ≤ n) : x ≤ c10 f n := by
  have := c10_mono f hn
  rcases h with ⟨q, -⟩ | ⟨-, q, -, -, c⟩ <;> omega
