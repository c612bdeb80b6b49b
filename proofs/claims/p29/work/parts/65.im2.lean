theorem okN.nx {F : Nat → Nat → Int32} {np : Nat} {po pr : Nat → Nat} {p k y x : Int32} (h : okN F np po pr p.toNatClampNeg) (e1 : po p.toNatClampNeg = x.toNatClampNeg) (e2 : (pr p.toNatClampNeg : Int) = k.toInt) (hk : k.toInt < y.toInt) (hy : y.toInt < (F 108 x.toNatClampNeg).toInt) : (0 ≤ (F 112 p.toNatClampNeg).toInt ∧ (F 112 p.toNatClampNeg).toInt < np) ∧ po (F 112 p.toNatClampNeg).toNatClampNeg = x.toNatClampNeg ∧ (pr (F 112 p.toNatClampNeg).toNatClampNeg : Int) = k.toInt + 1 := by
  unfold okN at h
  rw [e1] at h
  rcases h with ⟨a1, a2, a3⟩ | ⟨⟨a1, a2⟩, a3, a4, a5⟩
  · omega
  · have a4 : po (F 112 p.toNatClampNeg).toNatClampNeg = x.toNatClampNeg := a4
    have a5 : pr (F 112 p.toNatClampNeg).toNatClampNeg = pr p.toNatClampNeg + 1 := a5
    exact ⟨⟨by omega, a2⟩, a4, by omega⟩
theorem okI.nx {F : Nat → Nat → Int32} {nb ni : Nat} {p k y x : Int32} (h : okI F nb ni p.toNatClampNeg) (e1 : F 105 p.toNatClampNeg = x) (e2 : (F 106 p.toNatClampNeg).toInt = k.toInt) (hk : k.toInt < y.toInt) (hy : y.toInt < (F 102 x.toNatClampNeg).toInt) : (0 ≤ (F 107 p.toNatClampNeg).toInt ∧ (F 107 p.toNatClampNeg).toInt < ni) ∧ F 105 (F 107 p.toNatClampNeg).toNatClampNeg = x ∧ (F 106 (F 107 p.toNatClampNeg).toNatClampNeg).toInt = k.toInt + 1 := by
  unfold okI at h
  rw [e1] at h
  obtain ⟨-, h⟩ := h
  rcases h with ⟨a1, a2, a3⟩ | ⟨⟨a1, a2⟩, a3, a4, a5⟩
  · have a2 : (F 106 p.toNatClampNeg).toInt + 1 = (F 102 x.toNatClampNeg).toInt := a2
    omega
  · have a4 : F 105 (F 107 p.toNatClampNeg).toNatClampNeg = x := a4
    have a5 : (F 106 (F 107 p.toNatClampNeg).toNatClampNeg).toInt = (F 106 p.toNatClampNeg).toInt + 1 := a5
    exact ⟨⟨by omega, a2⟩, a4, by omega⟩
theorem GTm.pt {i F : Nat → Nat → Int32} {x : Int32} (h : GTm i F) (hx : 0 ≤ x.toInt ∧ x.toInt < (i 78 40).toInt) (hp : 1 ≤ (F 108 x.toNatClampNeg).toInt) : ∃ (np : Nat) (po pr : Nat → Nat), np ≤ 1802 ∧ (0 ≤ (F 109 x.toNatClampNeg).toInt ∧ (F 109 x.toNatClampNeg).toInt < np) ∧ po (F 109 x.toNatClampNeg).toNatClampNeg = x.toNatClampNeg ∧ (pr (F 109 x.toNatClampNeg).toNatClampNeg : Int) = 0 ∧ ∀ q, q < np → okN F np po pr q := by
  obtain ⟨⟨nb, ni, np, po, pr, hq, ⟨a1, a2, a3⟩, hTO⟩, -⟩ := h
  have c := clI hx.1
  have e := hTO.1
  have hQ := hTO.2.2.2.2.1 x.toNatClampNeg (by omega)
  unfold okQ at hQ
  rcases hQ with ⟨z1, -⟩ | ⟨z1, z2, z3, ⟨z4, z5⟩, -⟩
  · omega
  · have z4 : po (F 109 x.toNatClampNeg).toNatClampNeg = x.toNatClampNeg := z4
    have z5 : pr (F 109 x.toNatClampNeg).toNatClampNeg = 0 := z5
    exact ⟨np, po, pr, by omega, z2, z4, by omega, fun q hq => (hTO.2.2.2.2.2 q hq).2.1⟩
theorem GTm.it {i F : Nat → Nat → Int32} {x : Int32} (h : GTm i F) (hx : 0 ≤ x.toInt ∧ x.toInt < (i 78 32).toInt) (hp : 1 ≤ (F 102 x.toNatClampNeg).toInt) : ∃ (nb ni : Nat), ni ≤ 1202 ∧ (0 ≤ (F 103 x.toNatClampNeg).toInt ∧ (F 103 x.toNatClampNeg).toInt < ni) ∧ F 105 (F 103 x.toNatClampNeg).toNatClampNeg = x ∧ (F 106 (F 103 x.toNatClampNeg).toNatClampNeg).toInt = 0 ∧ ∀ q, q < ni → okI F nb ni q := by
  obtain ⟨⟨nb, ni, np, po, pr, hq, ⟨a1, a2, a3⟩, hTO⟩, -⟩ := h
  have c := clI hx.1
  have e := hTO.1
  have hQ := hTO.2.1 x.toNatClampNeg (by omega)
  unfold okB at hQ
  rcases hQ with ⟨z1, -⟩ | ⟨z1, z2, z3, ⟨z4, z5⟩, -⟩
  · omega
  · have z4 : (F 105 (F 103 x.toNatClampNeg).toNatClampNeg).toInt = (x.toNatClampNeg : Int) := z4
    have z5 : (F 106 (F 103 x.toNatClampNeg).toNatClampNeg).toInt = 0 := z5
    exact ⟨nb, ni, by omega, z2, Int32.toInt_inj.mp (by omega), z5, fun q hq => hTO.2.2.2.1 q hq⟩
theorem GTm.q8 {i F : Nat → Nat → Int32} {x : Int32} (h : GTm i F) (hx : 0 ≤ x.toInt ∧ x.toInt < (i 78 40).toInt) : 0 ≤ (F 108 x.toNatClampNeg).toInt ∧ (F 108 x.toNatClampNeg).toInt ≤ 1802 := by
  obtain ⟨⟨nb, ni, np, po, pr, hq, ⟨a1, a2, a3⟩, hTO⟩, -⟩ := h
  have c := clI hx.1
  have e := hTO.1
  have hQ := hTO.2.2.2.2.1 x.toNatClampNeg (by omega)
  unfold okQ at hQ
  rcases hQ with ⟨z1, -⟩ | ⟨z1, -⟩
  · omega
  · omega
theorem GTm.b2 {i F : Nat → Nat → Int32} {x : Int32} (h : GTm i F) (hx : 0 ≤ x.toInt ∧ x.toInt < (i 78 32).toInt) : 0 ≤ (F 102 x.toNatClampNeg).toInt ∧ (F 102 x.toNatClampNeg).toInt ≤ 1202 := by
  obtain ⟨⟨nb, ni, np, po, pr, hq, ⟨a1, a2, a3⟩, hTO⟩, -⟩ := h
  have c := clI hx.1
  have e := hTO.1
  have hQ := hTO.2.1 x.toNatClampNeg (by omega)
  unfold okB at hQ
  rcases hQ with ⟨z1, -⟩ | ⟨z1, -⟩
  · omega
  · omega
