def Tf17 (i F : Nat → Nat → Int32) : Prop := (0 ≤ (i 18 9).toInt ∧ (i 18 9).toInt ≤ 601) ∧ (0 ≤ (i 28 5).toInt ∧ (i 28 5).toInt ≤ 1200) ∧ (0 ≤ (i 28 8).toInt ∧ (i 28 8).toInt ≤ 1201) ∧ inR (F 38) 0 601 ∧ inR (F 29) 0 601 ∧ inR (F 34) 0 1200 ∧ inR (F 35) (-2147483648) 600
def Tb17 (i F : Nat → Nat → Int32) : Prop := Tf17 i F ∧ 1 ≤ (i 18 9).toInt ∧ (1 ≤ (i 17 7).toInt ∧ (i 17 7).toInt ≤ 601) ∧ ((i 17 8).toInt = -9 ∨ (0 ≤ (i 17 8).toInt ∧ (i 17 8).toInt < 600)) ∧ F 38 0 = 0 ∧ F 19 0 = 0
def Pp17 (k : Int) (i F : Nat → Nat → Int32) : Prop := ∀ p : Nat, (p : Int) < (i 28 8).toInt → (F 35 p).toInt < k ∧ (0 ≤ (F 35 p).toInt → 0 ≤ (F 36 (F 35 p).toNatClampNeg).toInt ∧ (F 36 (F 35 p).toNatClampNeg).toInt < 1200)
theorem Tb17.lin {i F : Nat → Nat → Int32} (h : Tb17 i F) : (0 ≤ (i 18 9).toInt ∧ (i 18 9).toInt ≤ 601) ∧ (0 ≤ (i 28 5).toInt ∧ (i 28 5).toInt ≤ 1200) ∧ (0 ≤ (i 28 8).toInt ∧ (i 28 8).toInt ≤ 1201) ∧ 1 ≤ (i 18 9).toInt ∧ (1 ≤ (i 17 7).toInt ∧ (i 17 7).toInt ≤ 601) ∧ ((i 17 8).toInt = -9 ∨ (0 ≤ (i 17 8).toInt ∧ (i 17 8).toInt < 600)) := ⟨h.1.1, h.1.2.1, h.1.2.2.1, h.2.1, h.2.2.1, h.2.2.2.1⟩
theorem Tf17.lin {i F : Nat → Nat → Int32} (h : Tf17 i F) : (0 ≤ (i 18 9).toInt ∧ (i 18 9).toInt ≤ 601) ∧ (0 ≤ (i 28 5).toInt ∧ (i 28 5).toInt ≤ 1200) ∧ (0 ≤ (i 28 8).toInt ∧ (i 28 8).toInt ≤ 1201) := ⟨h.1, h.2.1, h.2.2.1⟩
theorem Tf17.pl {i F : Nat → Nat → Int32} (h : Tf17 i F) : inR (F 38) 0 601 := h.2.2.2.1
theorem Tf17.ow {i F : Nat → Nat → Int32} (h : Tf17 i F) : inR (F 29) 0 601 := h.2.2.2.2.1
theorem Tf17.pi {i F : Nat → Nat → Int32} (h : Tf17 i F) : inR (F 34) 0 1200 := h.2.2.2.2.2.1
theorem Tf17.pv {i F : Nat → Nat → Int32} (h : Tf17 i F) : inR (F 35) (-2147483648) 600 := h.2.2.2.2.2.2
theorem Tb17.add {i F i2 F2 : Nat → Nat → Int32} {G G2 : Nat → Nat → Int64} (h : Tb17 i F) (hon : On 18 28 i F G (i2, F2, G2)) (h1 : 1 ≤ (i2 18 9).toInt ∧ (i2 18 9).toInt ≤ 601) (h2 : F2 19 0 = F 19 0) : Tb17 i2 F2 := by
  obtain ⟨⟨c1, c2, c3, c4, c5, c6, c7⟩, c8, c9, c10, c11, c12⟩ := h
  have e17 : i2 17 = i 17 ∧ F2 17 = F 17 := hon.1 17 (by decide)
  have e28 : i2 28 = i 28 ∧ F2 28 = F 28 := hon.1 28 (by decide)
  have e29 : i2 29 = i 29 ∧ F2 29 = F 29 := hon.1 29 (by decide)
  have e34 : i2 34 = i 34 ∧ F2 34 = F 34 := hon.1 34 (by decide)
  have e35 : i2 35 = i 35 ∧ F2 35 = F 35 := hon.1 35 (by decide)
  have e38 : i2 38 = i 38 ∧ F2 38 = F 38 := hon.1 38 (by decide)
  exact ⟨⟨⟨by omega, h1.2⟩, by rw [(e28).1]; exact c2, by rw [(e28).1]; exact c3, by rw [(e38).2]; exact c4, by rw [(e29).2]; exact c5, by rw [(e34).2]; exact c6, by rw [(e35).2]; exact c7⟩, h1.1, by rw [(e17).1]; exact c9, by rw [(e17).1]; exact c10, by rw [(e38).2]; exact c11, h2.trans c12⟩
theorem Tb17.iadd {i F i2 F2 : Nat → Nat → Int32} {G G2 : Nat → Nat → Int64} (h : Tb17 i F) (hon : On 28 34 i F G (i2, F2, G2)) (h1 : 0 ≤ (i2 28 5).toInt ∧ (i2 28 5).toInt ≤ 1200) (h2 : i2 28 8 = i 28 8) (h3 : inR (F2 29) 0 601) : Tb17 i2 F2 := by
  obtain ⟨⟨c1, c2, c3, c4, c5, c6, c7⟩, c8, c9, c10, c11, c12⟩ := h
  have e17 : i2 17 = i 17 ∧ F2 17 = F 17 := hon.1 17 (by decide)
  have e18 : i2 18 = i 18 ∧ F2 18 = F 18 := hon.1 18 (by decide)
  have e19 : i2 19 = i 19 ∧ F2 19 = F 19 := hon.1 19 (by decide)
  have e34 : i2 34 = i 34 ∧ F2 34 = F 34 := hon.1 34 (by decide)
  have e35 : i2 35 = i 35 ∧ F2 35 = F 35 := hon.1 35 (by decide)
  have e38 : i2 38 = i 38 ∧ F2 38 = F 38 := hon.1 38 (by decide)
  exact ⟨⟨by rw [(e18).1]; exact c1, h1, by rw [h2]; exact c3, by rw [(e38).2]; exact c4, h3, by rw [(e34).2]; exact c6, by rw [(e35).2]; exact c7⟩, by rw [(e18).1]; exact c8, by rw [(e17).1]; exact c9, by rw [(e17).1]; exact c10, by rw [(e38).2]; exact c11, by rw [(e19).2]; exact c12⟩
theorem Tb17.hang {i F i2 F2 : Nat → Nat → Int32} {G G2 : Nat → Nat → Int64} (h : Tb17 i F) (hon : On 28 36 i F G (i2, F2, G2)) (h1 : i2 28 5 = i 28 5) (h2 : 0 ≤ (i2 28 8).toInt ∧ (i2 28 8).toInt ≤ 1201) (h3 : F2 29 = F 29) (h4 : inR (F2 34) 0 1200) (h5 : inR (F2 35) (-2147483648) 600) : Tb17 i2 F2 := by
  obtain ⟨⟨c1, c2, c3, c4, c5, c6, c7⟩, c8, c9, c10, c11, c12⟩ := h
  have e17 : i2 17 = i 17 ∧ F2 17 = F 17 := hon.1 17 (by decide)
  have e18 : i2 18 = i 18 ∧ F2 18 = F 18 := hon.1 18 (by decide)
  have e19 : i2 19 = i 19 ∧ F2 19 = F 19 := hon.1 19 (by decide)
  have e38 : i2 38 = i 38 ∧ F2 38 = F 38 := hon.1 38 (by decide)
  exact ⟨⟨by rw [(e18).1]; exact c1, by rw [h1]; exact c2, h2, by rw [(e38).2]; exact c4, by rw [h3]; exact c5, h4, h5⟩, by rw [(e18).1]; exact c8, by rw [(e17).1]; exact c9, by rw [(e17).1]; exact c10, by rw [(e38).2]; exact c11, by rw [(e19).2]; exact c12⟩
theorem Pp17.on {i F i2 F2 : Nat → Nat → Int32} {G G2 : Nat → Nat → Int64} {k : Int} {a c : Nat} (h : Pp17 k i F) (hon : On a c i F G (i2, F2, G2)) (h1 : (28 < a ∨ c ≤ 28) ∧ (35 < a ∨ c ≤ 35) ∧ (36 < a ∨ c ≤ 36)) : Pp17 k i2 F2 := by
  intro p hp
  have e1 : i2 28 = i 28 := (hon.1 28 h1.1).1
  have e2 : F2 35 = F 35 := (hon.1 35 h1.2.1).2
  have e3 : F2 36 = F 36 := (hon.1 36 h1.2.2).2
  rw [e2, e3]
  rw [e1] at hp
  exact h p hp
theorem Pp17.iadd {i F i2 F2 : Nat → Nat → Int32} {G G2 : Nat → Nat → Int64} {k : Int} (h : Pp17 k i F) (hon : On 28 34 i F G (i2, F2, G2)) (h2 : i2 28 8 = i 28 8) : Pp17 k i2 F2 := by
  intro p hp
  have e2 : F2 35 = F 35 := (hon.1 35 (by decide)).2
  have e3 : F2 36 = F 36 := (hon.1 36 (by decide)).2
  rw [e2, e3]
  rw [h2] at hp
  exact h p hp
theorem Pp17.hangN {i F i2 F2 : Nat → Nat → Int32} {G G2 : Nat → Nat → Int64} {k : Int} {x y : Int32} (h : Pp17 k i F) (hon : On 28 36 i F G (i2, F2, G2)) (h1 : ∀ p : Nat, (p : Int) < (i2 28 8).toInt → ((p : Int) < (i 28 8).toInt ∧ F2 35 p = F 35 p) ∨ (F2 35 p = y ∧ 0 ≤ x.toInt ∧ x.toInt < 1200)) (hy : y.toInt < 0) (hk : 0 ≤ k) : Pp17 k i2 F2 := by
  intro p hp
  have e3 : F2 36 = F 36 := (hon.1 36 (by decide)).2
  rcases h1 p hp with ⟨q1, q2⟩ | ⟨q1, -⟩
  · rw [q2, e3]; exact h p q1
  · rw [q1]; exact ⟨by omega, fun q => absurd q (by omega)⟩
theorem Pp17.hangT {i F i2 F2 : Nat → Nat → Int32} {G G2 : Nat → Nat → Int64} {x y : Int32} (h : Pp17 y.toInt i F) (hon : On 28 36 i F G (i2, F2, G2)) (h1 : ∀ p : Nat, (p : Int) < (i2 28 8).toInt → ((p : Int) < (i 28 8).toInt ∧ F2 35 p = F 35 p) ∨ (F2 35 p = y ∧ 0 ≤ x.toInt ∧ x.toInt < 1200)) (hy : 0 ≤ y.toInt) : Pp17 (y.toInt + 1) i2 (va_up F2 36 (upd (F2 36) y.toNatClampNeg x)) := by
  intro p hp
  have e3 : F2 36 = F 36 := (hon.1 36 (by decide)).2
  have hc := clI hy
  rw [va_up_ne _ _ (show 35 ≠ 36 by decide), va_up_self, e3]
  rcases h1 p hp with ⟨q1, q2⟩ | ⟨q1, q2⟩
  · rw [q2]
    have := h p q1
    refine ⟨by omega, fun q => ?_⟩
    have hc2 := clI q
    rw [upd_n (by omega)]
    exact this.2 q
  · rw [q1, upd_s]; exact ⟨by omega, fun _ => q2⟩
theorem Pp17.mono {i F : Nat → Nat → Int32} {k k2 : Int} (h : Pp17 k i F) (hk : k ≤ k2) : Pp17 k2 i F := fun p hp => ⟨by have := (h p hp).1; omega, (h p hp).2⟩
theorem Pp17.zero {i F : Nat → Nat → Int32} {k : Int} (h : (i 28 8).toInt ≤ 0) : Pp17 k i F := fun p hp => absurd hp (by omega)
theorem Tb17.pend {i F : Nat → Nat → Int32} {x : Int32} (h : Tb17 i F) (hx : x.toInt = -9 ∨ (0 ≤ x.toInt ∧ x.toInt < 600)) : Tb17 (up2 i 17 8 x) F := ⟨h.1, h.2.1, h.2.2.1, hx, h.2.2.2.2.1, h.2.2.2.2.2⟩
theorem Tb17.hgt {i F : Nat → Nat → Int32} {x : Int32} (h : Tb17 i F) (hx : 1 ≤ x.toInt ∧ x.toInt ≤ 601) : Tb17 (up2 i 17 7 x) F := ⟨h.1, h.2.1, hx, h.2.2.2.1, h.2.2.2.2.1, h.2.2.2.2.2⟩
theorem Tb17.pile {i F : Nat → Nat → Int32} {x t : Int32} (h : Tb17 i F) (hx : 0 ≤ x.toInt ∧ x.toInt < 601) (ht : 1 ≤ t.toInt ∧ t.toInt ≤ 601) : Tb17 (up2 i 17 7 t) (va_up F 38 (upd (F 38) (i 17 7).toNatClampNeg x)) := by
  obtain ⟨⟨c1, c2, c3, c4, c5, c6, c7⟩, c8, c9, c10, c11, c12⟩ := h
  exact ⟨⟨c1, c2, c3, by rw [va_up_self]; exact c4.up hx.1 hx.2, c5, c6, c7⟩, c8, ht, c10, by rw [va_up_self, upd0 c9.1]; exact c11, c12⟩
def Tf48 (i F : Nat → Nat → Int32) : Prop := (0 ≤ (i 49 9).toInt ∧ (i 49 9).toInt ≤ 601) ∧ (0 ≤ (i 59 5).toInt ∧ (i 59 5).toInt ≤ 1200) ∧ (0 ≤ (i 59 8).toInt ∧ (i 59 8).toInt ≤ 1201) ∧ inR (F 69) 0 601 ∧ inR (F 60) 0 601 ∧ inR (F 65) 0 1200 ∧ inR (F 66) (-2147483648) 600
def Tb48 (i F : Nat → Nat → Int32) : Prop := Tf48 i F ∧ 1 ≤ (i 49 9).toInt ∧ (1 ≤ (i 48 7).toInt ∧ (i 48 7).toInt ≤ 601) ∧ ((i 48 8).toInt = -9 ∨ (0 ≤ (i 48 8).toInt ∧ (i 48 8).toInt < 600)) ∧ F 69 0 = 0 ∧ F 50 0 = 0
def Pp48 (k : Int) (i F : Nat → Nat → Int32) : Prop := ∀ p : Nat, (p : Int) < (i 59 8).toInt → (F 66 p).toInt < k ∧ (0 ≤ (F 66 p).toInt → 0 ≤ (F 67 (F 66 p).toNatClampNeg).toInt ∧ (F 67 (F 66 p).toNatClampNeg).toInt < 1200)
theorem Tb48.lin {i F : Nat → Nat → Int32} (h : Tb48 i F) : (0 ≤ (i 49 9).toInt ∧ (i 49 9).toInt ≤ 601) ∧ (0 ≤ (i 59 5).toInt ∧ (i 59 5).toInt ≤ 1200) ∧ (0 ≤ (i 59 8).toInt ∧ (i 59 8).toInt ≤ 1201) ∧ 1 ≤ (i 49 9).toInt ∧ (1 ≤ (i 48 7).toInt ∧ (i 48 7).toInt ≤ 601) ∧ ((i 48 8).toInt = -9 ∨ (0 ≤ (i 48 8).toInt ∧ (i 48 8).toInt < 600)) := ⟨h.1.1, h.1.2.1, h.1.2.2.1, h.2.1, h.2.2.1, h.2.2.2.1⟩
theorem Tf48.lin {i F : Nat → Nat → Int32} (h : Tf48 i F) : (0 ≤ (i 49 9).toInt ∧ (i 49 9).toInt ≤ 601) ∧ (0 ≤ (i 59 5).toInt ∧ (i 59 5).toInt ≤ 1200) ∧ (0 ≤ (i 59 8).toInt ∧ (i 59 8).toInt ≤ 1201) := ⟨h.1, h.2.1, h.2.2.1⟩
theorem Tf48.pl {i F : Nat → Nat → Int32} (h : Tf48 i F) : inR (F 69) 0 601 := h.2.2.2.1
theorem Tf48.ow {i F : Nat → Nat → Int32} (h : Tf48 i F) : inR (F 60) 0 601 := h.2.2.2.2.1
theorem Tf48.pi {i F : Nat → Nat → Int32} (h : Tf48 i F) : inR (F 65) 0 1200 := h.2.2.2.2.2.1
theorem Tf48.pv {i F : Nat → Nat → Int32} (h : Tf48 i F) : inR (F 66) (-2147483648) 600 := h.2.2.2.2.2.2
theorem Tb48.add {i F i2 F2 : Nat → Nat → Int32} {G G2 : Nat → Nat → Int64} (h : Tb48 i F) (hon : On 49 59 i F G (i2, F2, G2)) (h1 : 1 ≤ (i2 49 9).toInt ∧ (i2 49 9).toInt ≤ 601) (h2 : F2 50 0 = F 50 0) : Tb48 i2 F2 := by
  obtain ⟨⟨c1, c2, c3, c4, c5, c6, c7⟩, c8, c9, c10, c11, c12⟩ := h
  have e48 : i2 48 = i 48 ∧ F2 48 = F 48 := hon.1 48 (by decide)
  have e59 : i2 59 = i 59 ∧ F2 59 = F 59 := hon.1 59 (by decide)
  have e60 : i2 60 = i 60 ∧ F2 60 = F 60 := hon.1 60 (by decide)
  have e65 : i2 65 = i 65 ∧ F2 65 = F 65 := hon.1 65 (by decide)
  have e66 : i2 66 = i 66 ∧ F2 66 = F 66 := hon.1 66 (by decide)
  have e69 : i2 69 = i 69 ∧ F2 69 = F 69 := hon.1 69 (by decide)
  exact ⟨⟨⟨by omega, h1.2⟩, by rw [(e59).1]; exact c2, by rw [(e59).1]; exact c3, by rw [(e69).2]; exact c4, by rw [(e60).2]; exact c5, by rw [(e65).2]; exact c6, by rw [(e66).2]; exact c7⟩, h1.1, by rw [(e48).1]; exact c9, by rw [(e48).1]; exact c10, by rw [(e69).2]; exact c11, h2.trans c12⟩
theorem Tb48.iadd {i F i2 F2 : Nat → Nat → Int32} {G G2 : Nat → Nat → Int64} (h : Tb48 i F) (hon : On 59 65 i F G (i2, F2, G2)) (h1 : 0 ≤ (i2 59 5).toInt ∧ (i2 59 5).toInt ≤ 1200) (h2 : i2 59 8 = i 59 8) (h3 : inR (F2 60) 0 601) : Tb48 i2 F2 := by
  obtain ⟨⟨c1, c2, c3, c4, c5, c6, c7⟩, c8, c9, c10, c11, c12⟩ := h
  have e48 : i2 48 = i 48 ∧ F2 48 = F 48 := hon.1 48 (by decide)
  have e49 : i2 49 = i 49 ∧ F2 49 = F 49 := hon.1 49 (by decide)
  have e50 : i2 50 = i 50 ∧ F2 50 = F 50 := hon.1 50 (by decide)
  have e65 : i2 65 = i 65 ∧ F2 65 = F 65 := hon.1 65 (by decide)
  have e66 : i2 66 = i 66 ∧ F2 66 = F 66 := hon.1 66 (by decide)
  have e69 : i2 69 = i 69 ∧ F2 69 = F 69 := hon.1 69 (by decide)
  exact ⟨⟨by rw [(e49).1]; exact c1, h1, by rw [h2]; exact c3, by rw [(e69).2]; exact c4, h3, by rw [(e65).2]; exact c6, by rw [(e66).2]; exact c7⟩, by rw [(e49).1]; exact c8, by rw [(e48).1]; exact c9, by rw [(e48).1]; exact c10, by rw [(e69).2]; exact c11, by rw [(e50).2]; exact c12⟩
theorem Tb48.hang {i F i2 F2 : Nat → Nat → Int32} {G G2 : Nat → Nat → Int64} (h : Tb48 i F) (hon : On 59 67 i F G (i2, F2, G2)) (h1 : i2 59 5 = i 59 5) (h2 : 0 ≤ (i2 59 8).toInt ∧ (i2 59 8).toInt ≤ 1201) (h3 : F2 60 = F 60) (h4 : inR (F2 65) 0 1200) (h5 : inR (F2 66) (-2147483648) 600) : Tb48 i2 F2 := by
  obtain ⟨⟨c1, c2, c3, c4, c5, c6, c7⟩, c8, c9, c10, c11, c12⟩ := h
  have e48 : i2 48 = i 48 ∧ F2 48 = F 48 := hon.1 48 (by decide)
  have e49 : i2 49 = i 49 ∧ F2 49 = F 49 := hon.1 49 (by decide)
  have e50 : i2 50 = i 50 ∧ F2 50 = F 50 := hon.1 50 (by decide)
  have e69 : i2 69 = i 69 ∧ F2 69 = F 69 := hon.1 69 (by decide)
  exact ⟨⟨by rw [(e49).1]; exact c1, by rw [h1]; exact c2, h2, by rw [(e69).2]; exact c4, by rw [h3]; exact c5, h4, h5⟩, by rw [(e49).1]; exact c8, by rw [(e48).1]; exact c9, by rw [(e48).1]; exact c10, by rw [(e69).2]; exact c11, by rw [(e50).2]; exact c12⟩
theorem Pp48.on {i F i2 F2 : Nat → Nat → Int32} {G G2 : Nat → Nat → Int64} {k : Int} {a c : Nat} (h : Pp48 k i F) (hon : On a c i F G (i2, F2, G2)) (h1 : (59 < a ∨ c ≤ 59) ∧ (66 < a ∨ c ≤ 66) ∧ (67 < a ∨ c ≤ 67)) : Pp48 k i2 F2 := by
  intro p hp
  have e1 : i2 59 = i 59 := (hon.1 59 h1.1).1
  have e2 : F2 66 = F 66 := (hon.1 66 h1.2.1).2
  have e3 : F2 67 = F 67 := (hon.1 67 h1.2.2).2
  rw [e2, e3]
  rw [e1] at hp
  exact h p hp
theorem Pp48.iadd {i F i2 F2 : Nat → Nat → Int32} {G G2 : Nat → Nat → Int64} {k : Int} (h : Pp48 k i F) (hon : On 59 65 i F G (i2, F2, G2)) (h2 : i2 59 8 = i 59 8) : Pp48 k i2 F2 := by
  intro p hp
  have e2 : F2 66 = F 66 := (hon.1 66 (by decide)).2
  have e3 : F2 67 = F 67 := (hon.1 67 (by decide)).2
  rw [e2, e3]
  rw [h2] at hp
  exact h p hp
theorem Pp48.hangN {i F i2 F2 : Nat → Nat → Int32} {G G2 : Nat → Nat → Int64} {k : Int} {x y : Int32} (h : Pp48 k i F) (hon : On 59 67 i F G (i2, F2, G2)) (h1 : ∀ p : Nat, (p : Int) < (i2 59 8).toInt → ((p : Int) < (i 59 8).toInt ∧ F2 66 p = F 66 p) ∨ (F2 66 p = y ∧ 0 ≤ x.toInt ∧ x.toInt < 1200)) (hy : y.toInt < 0) (hk : 0 ≤ k) : Pp48 k i2 F2 := by
  intro p hp
  have e3 : F2 67 = F 67 := (hon.1 67 (by decide)).2
  rcases h1 p hp with ⟨q1, q2⟩ | ⟨q1, -⟩
  · rw [q2, e3]; exact h p q1
  · rw [q1]; exact ⟨by omega, fun q => absurd q (by omega)⟩
theorem Pp48.hangT {i F i2 F2 : Nat → Nat → Int32} {G G2 : Nat → Nat → Int64} {x y : Int32} (h : Pp48 y.toInt i F) (hon : On 59 67 i F G (i2, F2, G2)) (h1 : ∀ p : Nat, (p : Int) < (i2 59 8).toInt → ((p : Int) < (i 59 8).toInt ∧ F2 66 p = F 66 p) ∨ (F2 66 p = y ∧ 0 ≤ x.toInt ∧ x.toInt < 1200)) (hy : 0 ≤ y.toInt) : Pp48 (y.toInt + 1) i2 (va_up F2 67 (upd (F2 67) y.toNatClampNeg x)) := by
  intro p hp
  have e3 : F2 67 = F 67 := (hon.1 67 (by decide)).2
  have hc := clI hy
  rw [va_up_ne _ _ (show 66 ≠ 67 by decide), va_up_self, e3]
  rcases h1 p hp with ⟨q1, q2⟩ | ⟨q1, q2⟩
  · rw [q2]
    have := h p q1
    refine ⟨by omega, fun q => ?_⟩
    have hc2 := clI q
    rw [upd_n (by omega)]
    exact this.2 q
  · rw [q1, upd_s]; exact ⟨by omega, fun _ => q2⟩
theorem Pp48.mono {i F : Nat → Nat → Int32} {k k2 : Int} (h : Pp48 k i F) (hk : k ≤ k2) : Pp48 k2 i F := fun p hp => ⟨by have := (h p hp).1; omega, (h p hp).2⟩
theorem Pp48.zero {i F : Nat → Nat → Int32} {k : Int} (h : (i 59 8).toInt ≤ 0) : Pp48 k i F := fun p hp => absurd hp (by omega)
theorem Tb48.pend {i F : Nat → Nat → Int32} {x : Int32} (h : Tb48 i F) (hx : x.toInt = -9 ∨ (0 ≤ x.toInt ∧ x.toInt < 600)) : Tb48 (up2 i 48 8 x) F := ⟨h.1, h.2.1, h.2.2.1, hx, h.2.2.2.2.1, h.2.2.2.2.2⟩
theorem Tb48.hgt {i F : Nat → Nat → Int32} {x : Int32} (h : Tb48 i F) (hx : 1 ≤ x.toInt ∧ x.toInt ≤ 601) : Tb48 (up2 i 48 7 x) F := ⟨h.1, h.2.1, hx, h.2.2.2.1, h.2.2.2.2.1, h.2.2.2.2.2⟩
theorem Tb48.pile {i F : Nat → Nat → Int32} {x t : Int32} (h : Tb48 i F) (hx : 0 ≤ x.toInt ∧ x.toInt < 601) (ht : 1 ≤ t.toInt ∧ t.toInt ≤ 601) : Tb48 (up2 i 48 7 t) (va_up F 69 (upd (F 69) (i 48 7).toNatClampNeg x)) := by
  obtain ⟨⟨c1, c2, c3, c4, c5, c6, c7⟩, c8, c9, c10, c11, c12⟩ := h
  exact ⟨⟨c1, c2, c3, by rw [va_up_self]; exact c4.up hx.1 hx.2, c5, c6, c7⟩, c8, ht, c10, by rw [va_up_self, upd0 c9.1]; exact c11, c12⟩
