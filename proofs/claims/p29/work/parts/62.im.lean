/-- there is a tree: its extents may be greater than the counters say -/
def GTm (i F : Nat → Nat → Int32) : Prop := (∃ (nb ni np : Nat) (po pr hp : Nat → Nat), (1 ≤ nb ∧ (i 78 32).toInt ≤ nb ∧ (i 78 40).toInt ≤ ni) ∧ TO nb ni np po pr hp F) ∧ (F 100 0).toInt = -9 ∧ 0 ≤ (i 78 32).toInt ∧ 0 ≤ (i 78 40).toInt
theorem GTm.of {i F : Nat → Nat → Int32} (h : TMm i F) (hb : 1 ≤ (i 78 32).toInt) : GTm i F := by
  obtain ⟨⟨a1, a2, a3⟩, ⟨po, pr, hq, hTO⟩, hW, hIB, hIO, hZ⟩ := h
  have c1 := clI a1
  have c2 := clI a2
  exact ⟨⟨cl (i 78 32), cl (i 78 40), cl (i 78 47), po, pr, hq, ⟨by show 1 ≤ (i 78 32).toNatClampNeg; omega, by show (i 78 32).toInt ≤ ((i 78 32).toNatClampNeg : Int); omega, by show (i 78 40).toInt ≤ ((i 78 40).toNatClampNeg : Int); omega⟩, hTO⟩, hZ hb, a1, a2⟩
theorem GTm.cg {i F i2 F2 : Nat → Nat → Int32} (h : GTm i F) (hb : 0 ≤ (i2 78 32).toInt ∧ (i2 78 32).toInt ≤ (i 78 32).toInt) (hi : 0 ≤ (i2 78 40).toInt ∧ (i2 78 40).toInt ≤ (i 78 40).toInt) (hf : ∀ k : Nat, 95 ≤ k → (k < 96 ∨ 98 ≤ k) → k < 114 → F2 k = F k) : GTm i2 F2 := by
  obtain ⟨⟨nb, ni, np, po, pr, hq, ⟨a1, a2, a3⟩, hTO⟩, hz, h0, h1⟩ := h
  refine ⟨⟨nb, ni, np, po, pr, hq, ⟨a1, by omega, by omega⟩, ?_⟩, by rw [hf 100 (by decide) (by decide) (by decide)]; exact hz, hb.1, hi.1⟩
  unfold TO okB okP okI okQ okN okV at hTO ⊢
  rw [hf 100 (by decide) (by decide) (by decide), hf 101 (by decide) (by decide) (by decide), hf 102 (by decide) (by decide) (by decide), hf 103 (by decide) (by decide) (by decide), hf 104 (by decide) (by decide) (by decide), hf 105 (by decide) (by decide) (by decide), hf 106 (by decide) (by decide) (by decide), hf 107 (by decide) (by decide) (by decide), hf 108 (by decide) (by decide) (by decide), hf 109 (by decide) (by decide) (by decide), hf 110 (by decide) (by decide) (by decide), hf 111 (by decide) (by decide) (by decide), hf 112 (by decide) (by decide) (by decide)]
  exact hTO
theorem GTm.lin {i F : Nat → Nat → Int32} (h : GTm i F) : (0 ≤ (i 78 32).toInt ∧ (i 78 32).toInt ≤ 1202) ∧ (0 ≤ (i 78 40).toInt ∧ (i 78 40).toInt ≤ 1202) := by
  obtain ⟨⟨nb, ni, np, po, pr, hq, ⟨a1, a2, a3⟩, hTO⟩, hz, h0, h1⟩ := h
  have := hTO.1
  omega
def IMm (i F : Nat → Nat → Int32) : Prop := (0 ≤ (i 78 12).toInt ∧ (i 78 12).toInt ≤ 600) ∧ BT (F 85) ∧ (0 ≤ (i 78 14).toInt ∧ (i 78 14).toInt ≤ 600) ∧ i 78 17 = nI 85 ∧ TKm i F ∧ CB F ∧ WA F ∧ (0 ≤ (i 78 54).toInt ∧ (i 78 54).toInt ≤ 4000) ∧ (0 ≤ (i 78 78).toInt ∧ (i 78 78).toInt ≤ 200) ∧ ((i 78 15).toInt = 1 → GTm i F) ∧ TA (F 122) (F 123) ∧ inR (F 124) 0 1202
theorem WA.io {F : Nat → Nat → Int32} (h : WA F) (x : Nat) : 0 ≤ (F 95 x).toInt ∧ (F 95 x).toInt < 1202 := h.2.2 x
theorem WA.ib {F : Nat → Nat → Int32} (h : WA F) (x : Nat) : 0 ≤ (F 105 x).toInt ∧ (F 105 x).toInt < 1202 := h.2.1 x
/-- a step outwards -/
theorem WA.up {F : Nat → Nat → Int32} {k : Int32} (h : WA F) (hz : (F 100 0).toInt = -9) (hk : 0 ≤ k.toInt) (hn : ¬ (F 100 k.toNatClampNeg).toInt = -9) : (0 ≤ (F 100 k.toNatClampNeg).toInt ∧ (F 100 k.toNatClampNeg).toInt < 1202) ∧ 0 ≤ (F 105 (F 100 k.toNatClampNeg).toNatClampNeg).toInt ∧ (F 105 (F 100 k.toNatClampNeg).toNatClampNeg).toInt < k.toInt := by
  have c := clI hk
  by_cases q : k.toNatClampNeg = 0
  · rw [q] at hn; exact absurd hz hn
  · rcases h.1 k.toNatClampNeg (by omega) with w | ⟨w1, w2, w3⟩
    · exact absurd w hn
    · have w3 : (F 105 (F 100 k.toNatClampNeg).toNatClampNeg).toInt < (k.toNatClampNeg : Int) := w3
      have w2 : 0 ≤ (F 105 (F 100 k.toNatClampNeg).toNatClampNeg).toInt := w2
      exact ⟨w1, w2, by omega⟩
