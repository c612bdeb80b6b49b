/-! the columns of the writing -/
def WB (B : Int) (i F : Nat → Nat → Int32) : Prop := (0 ≤ (i 78 64).toInt ∧ (i 78 64).toInt ≤ B) ∧ ∀ d : Nat, (d : Int) < (i 78 63).toInt → (0 ≤ (F 119 d).toInt ∧ (F 119 d).toInt ≤ B) ∧ ((F 118 d).toInt = -1 ∨ (0 ≤ (F 120 d).toInt ∧ (F 120 d).toInt ≤ B))
theorem WB.pop {B : Int} {i F i2 F2 : Nat → Nat → Int32} (h : WB B i F) (e1 : i2 78 64 = i 78 64) (e2 : (i2 78 63).toInt ≤ (i 78 63).toInt) (f8 : F2 118 = F 118) (f9 : F2 119 = F 119) (f0 : F2 120 = F 120) : WB B i2 F2 := by
  refine ⟨by rw [e1]; exact h.1, fun d hd => ?_⟩
  rw [f8, f9, f0]
  exact h.2 d (by omega)
theorem WB.st2 {B B2 : Int} {D : Nat} {i F i2 F2 : Nat → Nat → Int32} {v : Int32} (h : WB B i F) (hB : B ≤ B2) (e1 : 0 ≤ (i2 78 64).toInt ∧ (i2 78 64).toInt ≤ B) (e2 : i2 78 63 = i 78 63) (f8 : F2 118 = upd (F 118) D v) (f9 : F2 119 = F 119) (f0 : F2 120 = upd (F 120) D (i2 78 64)) : WB B2 i2 F2 := by
  refine ⟨by omega, fun d hd => ?_⟩
  rw [e2] at hd
  have k := h.2 d hd
  rw [f8, f9, f0]
  by_cases q : d = D
  · rw [q, upd_s, upd_s]
    rw [q] at k
    exact ⟨by omega, Or.inr (by omega)⟩
  · rw [upd_n q, upd_n q]
    exact ⟨by omega, k.2.imp id (fun w => by omega)⟩
theorem WB.st3 {B B2 : Int} {D : Nat} {i F i2 F2 : Nat → Nat → Int32} (h : WB B i F) (hB : B ≤ B2) (e1 : i2 78 64 = i 78 64) (e2 : i2 78 63 = i 78 63) (f8 : F2 118 = upd (F 118) D (-1)) (f9 : F2 119 = F 119) (f0 : F2 120 = F 120) : WB B2 i2 F2 := by
  refine ⟨by rw [e1]; have := h.1; omega, fun d hd => ?_⟩
  rw [e2] at hd
  have k := h.2 d hd
  rw [f8, f9, f0]
  by_cases q : d = D
  · rw [q, upd_s]
    rw [q] at k
    exact ⟨by omega, Or.inl (by decide)⟩
  · rw [upd_n q]
    exact ⟨by omega, k.2.imp id (fun w => by omega)⟩
theorem WB.st4 {B B2 : Int} {D : Nat} {i F i2 F2 : Nat → Nat → Int32} {v : Int32} (h : WB B i F) (hB : B ≤ B2) (e1 : 0 ≤ (i2 78 64).toInt ∧ (i2 78 64).toInt ≤ B2) (e2 : i2 78 63 = i 78 63) (hp : ¬ (F 118 D).toInt = -1) (f8 : F2 118 = upd (F 118) D v) (f9 : F2 119 = F 119) (f0 : F2 120 = F 120) : WB B2 i2 F2 := by
  refine ⟨e1, fun d hd => ?_⟩
  rw [e2] at hd
  have k := h.2 d hd
  rw [f8, f9, f0]
  by_cases q : d = D
  · rw [q, upd_s]
    rw [q] at k
    have k2 := k.2.resolve_left hp
    exact ⟨by omega, Or.inr (by omega)⟩
  · rw [upd_n q]
    exact ⟨by omega, k.2.imp id (fun w => by omega)⟩
theorem WB.st5 {B B2 : Int} {D : Nat} {i F i2 F2 : Nat → Nat → Int32} {v t : Int32} (h : WB B i F) (hB : B ≤ B2) (e1 : i2 78 64 = i 78 64) (e2 : (i2 78 63).toInt = (i 78 63).toInt + 1) (h0 : 0 ≤ (i 78 63).toInt) (hp : ¬ (F 118 D).toInt = -1) (ht : 0 ≤ t.toInt ∧ t.toInt ≤ B2) (f8 : F2 118 = upd (upd (F 118) D v) (cl (i 78 63)) (-1)) (f9 : F2 119 = upd (F 119) (cl (i 78 63)) t) (f0 : F2 120 = F 120) : WB B2 i2 F2 := by
  have hc : ((cl (i 78 63) : Nat) : Int) = (i 78 63).toInt := clI h0
  refine ⟨by rw [e1]; have := h.1; omega, fun d hd => ?_⟩
  rw [f8, f9, f0]
  by_cases w : d = cl (i 78 63)
  · rw [w, upd_s, upd_s]
    exact ⟨ht, Or.inl (by decide)⟩
  · rw [upd_n w, upd_n w]
    have k := h.2 d (by omega)
    by_cases q : d = D
    · rw [q, upd_s]
      rw [q] at k
      have k2 := k.2.resolve_left hp
      exact ⟨by omega, Or.inr (by omega)⟩
    · rw [upd_n q]
      exact ⟨by omega, k.2.imp id (fun w => by omega)⟩
theorem WB.one {B : Int} {i F : Nat → Nat → Int32} (hB : 0 ≤ B) (e1 : i 78 64 = 0) (e2 : (i 78 63).toInt = 1) (f8 : F 118 0 = -1) (f9 : F 119 0 = 0) : WB B i F := by
  have h0 : Int32.toInt 0 = 0 := rfl
  refine ⟨by rw [e1]; omega, fun d hd => ?_⟩
  have : d = 0 := by omega
  subst this
  rw [f8, f9]
  exact ⟨by omega, Or.inl (by decide)⟩
