theorem Tf17.on {i F i2 F2 : Nat → Nat → Int32} {G G2 : Nat → Nat → Int64} {a c : Nat} (h : Tf17 i F) (hon : On a c i F G (i2, F2, G2)) (hd : 39 ≤ a ∨ c ≤ 17) : Tf17 i2 F2 := by
  obtain ⟨c1, c2, c3, c4, c5, c6, c7⟩ := h
  have e18 : i2 18 = i 18 ∧ F2 18 = F 18 := hon.1 18 (by omega)
  have e28 : i2 28 = i 28 ∧ F2 28 = F 28 := hon.1 28 (by omega)
  have e29 : i2 29 = i 29 ∧ F2 29 = F 29 := hon.1 29 (by omega)
  have e34 : i2 34 = i 34 ∧ F2 34 = F 34 := hon.1 34 (by omega)
  have e35 : i2 35 = i 35 ∧ F2 35 = F 35 := hon.1 35 (by omega)
  have e38 : i2 38 = i 38 ∧ F2 38 = F 38 := hon.1 38 (by omega)
  exact ⟨by rw [e18.1]; exact c1, by rw [e28.1]; exact c2, by rw [e28.1]; exact c3, by rw [e38.2]; exact c4, by rw [e29.2]; exact c5, by rw [e34.2]; exact c6, by rw [e35.2]; exact c7⟩
theorem Tb17.init {i F i2 F2 : Nat → Nat → Int32} (h : Tf17 i F) (h1 : i2 18 9 = 1) (h2 : i2 28 5 = 0) (h3 : i2 28 8 = 0) (h4 : i2 17 7 = 1) (h5 : i2 17 8 = -9) (h6 : F2 38 = upd (F 38) 0 0) (h7 : F2 19 0 = 0) (h8 : F2 29 = F 29) (h9 : F2 34 = F 34) (h10 : F2 35 = F 35) : Tb17 i2 F2 := by
  obtain ⟨c1, c2, c3, c4, c5, c6, c7⟩ := h
  refine ⟨⟨by rw [h1]; decide, by rw [h2]; decide, by rw [h3]; decide, by rw [h6]; exact c4.up (by decide) (by decide), by rw [h8]; exact c5, by rw [h9]; exact c6, by rw [h10]; exact c7⟩, by rw [h1]; decide, by rw [h4]; decide, by rw [h5]; exact Or.inl rfl, by rw [h6]; rfl, h7⟩
theorem Tf48.on {i F i2 F2 : Nat → Nat → Int32} {G G2 : Nat → Nat → Int64} {a c : Nat} (h : Tf48 i F) (hon : On a c i F G (i2, F2, G2)) (hd : 70 ≤ a ∨ c ≤ 48) : Tf48 i2 F2 := by
  obtain ⟨c1, c2, c3, c4, c5, c6, c7⟩ := h
  have e49 : i2 49 = i 49 ∧ F2 49 = F 49 := hon.1 49 (by omega)
  have e59 : i2 59 = i 59 ∧ F2 59 = F 59 := hon.1 59 (by omega)
  have e60 : i2 60 = i 60 ∧ F2 60 = F 60 := hon.1 60 (by omega)
  have e65 : i2 65 = i 65 ∧ F2 65 = F 65 := hon.1 65 (by omega)
  have e66 : i2 66 = i 66 ∧ F2 66 = F 66 := hon.1 66 (by omega)
  have e69 : i2 69 = i 69 ∧ F2 69 = F 69 := hon.1 69 (by omega)
  exact ⟨by rw [e49.1]; exact c1, by rw [e59.1]; exact c2, by rw [e59.1]; exact c3, by rw [e69.2]; exact c4, by rw [e60.2]; exact c5, by rw [e65.2]; exact c6, by rw [e66.2]; exact c7⟩
theorem Tb48.init {i F i2 F2 : Nat → Nat → Int32} (h : Tf48 i F) (h1 : i2 49 9 = 1) (h2 : i2 59 5 = 0) (h3 : i2 59 8 = 0) (h4 : i2 48 7 = 1) (h5 : i2 48 8 = -9) (h6 : F2 69 = upd (F 69) 0 0) (h7 : F2 50 0 = 0) (h8 : F2 60 = F 60) (h9 : F2 65 = F 65) (h10 : F2 66 = F 66) : Tb48 i2 F2 := by
  obtain ⟨c1, c2, c3, c4, c5, c6, c7⟩ := h
  refine ⟨⟨by rw [h1]; decide, by rw [h2]; decide, by rw [h3]; decide, by rw [h6]; exact c4.up (by decide) (by decide), by rw [h8]; exact c5, by rw [h9]; exact c6, by rw [h10]; exact c7⟩, by rw [h1]; decide, by rw [h4]; decide, by rw [h5]; exact Or.inl rfl, by rw [h6]; rfl, h7⟩
