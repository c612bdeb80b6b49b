def zC_ : Nat → Nat → Bool := (upz (upz (upz (upz (upz (upz (upz (upz (upz (upz (upz (upz (upz (upz (upz (upz (upz (upz (upz (upz (upz (upz (upz (upz (upz (upz (upz (upz (upz (upz (upz (upz (upz (upz (upz (upz (upz (upz (upz (upz (upz (upz (upz (upz (upz (upz (upz (upz (upz (upz (upz (upz (upz (upz (upz (upz (upz (upz (upz (upz (upz (upz (upz (upz (upz (upz (upz (upz (upz (upz (upz (upz (upz (upz (upz (upz (upz z1_ 1 0) 1 1) 0 0) 4 0) 0 1) 6 0) 0 2) 9 0) 9 1) 9 2) 9 3) 9 4) 9 5) 9 6) 8 0) 18 0) 18 1) 18 2) 18 3) 18 4) 18 5) 18 6) 18 7) 18 8) 17 0) 28 0) 28 1) 28 2) 28 3) 28 4) 28 6) 28 7) 17 1) 17 2) 17 3) 17 6) 8 1) 0 3) 40 0) 40 1) 40 2) 40 3) 40 4) 40 5) 40 6) 39 0) 49 0) 49 1) 49 2) 49 3) 49 4) 49 5) 49 6) 49 7) 49 8) 48 0) 59 0) 59 1) 59 2) 59 3) 59 4) 59 6) 59 7) 48 1) 48 2) 48 3) 48 6) 39 1) 0 4) 70 0) 70 1) 0 5) 73 0) 0 6) 75 0) 0 7) 0 12)
def iC_ : Nat → Nat → Int32 := (up2 (up2 (up2 (up2 (up2 (up2 (up2 (up2 (up2 (up2 (up2 (up2 (up2 i1_ 8 2 0) 8 3 (-9)) 8 4 (-9)) 8 5 (-9)) 39 2 0) 39 3 (-9)) 39 4 (-9)) 39 5 (-9)) 0 6 (nI 73)) 0 7 (nI 75)) 0 8 0) 0 10 (-9)) 0 11 (-9))
def zM_ : Nat → Nat → Bool := (upz (upz (upz (upz (upz (upz (upz (upz (upz (upz (upz (upz (upz (upz (upz (upz (upz (upz (upz (upz (upz (upz (upz (upz (upz (upz (upz (upz (upz (upz (upz (upz (upz (upz (upz (upz (upz (upz (upz (upz (upz (upz (upz (upz (upz (upz (upz (upz (upz (upz (upz (upz z1_ 78 1) 78 2) 78 4) 78 5) 78 7) 78 9) 78 11) 78 13) 78 16) 78 17) 78 20) 78 21) 78 22) 78 23) 78 24) 78 25) 78 26) 78 27) 78 28) 78 29) 78 33) 78 34) 78 35) 78 36) 78 37) 78 38) 78 39) 78 41) 78 42) 78 43) 78 44) 78 45) 78 46) 78 48) 78 49) 78 50) 78 53) 78 55) 78 57) 78 58) 78 59) 78 60) 78 61) 78 62) 78 69) 78 70) 78 71) 78 72) 78 73) 78 74) 78 75) 78 77)
def iM_ : Nat → Nat → Int32 := (up2 i1_ 78 17 (nI 85))
def FM_ : Nat → Nat → Int32 := (va_up (va_up (va_up (va_up (va_up i1_ 87 (upd (i1_ 87) (Int32.toNatClampNeg 1) (-9))) 87 (upd ((va_up i1_ 87 (upd (i1_ 87) (Int32.toNatClampNeg 1) (-9))) 87) (Int32.toNatClampNeg 2) (-9))) 87 (upd ((va_up (va_up i1_ 87 (upd (i1_ 87) (Int32.toNatClampNeg 1) (-9))) 87 (upd ((va_up i1_ 87 (upd (i1_ 87) (Int32.toNatClampNeg 1) (-9))) 87) (Int32.toNatClampNeg 2) (-9))) 87) (Int32.toNatClampNeg 3) (-9))) 128 (upd ((va_up (va_up (va_up i1_ 87 (upd (i1_ 87) (Int32.toNatClampNeg 1) (-9))) 87 (upd ((va_up i1_ 87 (upd (i1_ 87) (Int32.toNatClampNeg 1) (-9))) 87) (Int32.toNatClampNeg 2) (-9))) 87 (upd ((va_up (va_up i1_ 87 (upd (i1_ 87) (Int32.toNatClampNeg 1) (-9))) 87 (upd ((va_up i1_ 87 (upd (i1_ 87) (Int32.toNatClampNeg 1) (-9))) 87) (Int32.toNatClampNeg 2) (-9))) 87) (Int32.toNatClampNeg 3) (-9))) 128) (Int32.toNatClampNeg 0) (-9))) 128 (upd ((va_up (va_up (va_up (va_up i1_ 87 (upd (i1_ 87) (Int32.toNatClampNeg 1) (-9))) 87 (upd ((va_up i1_ 87 (upd (i1_ 87) (Int32.toNatClampNeg 1) (-9))) 87) (Int32.toNatClampNeg 2) (-9))) 87 (upd ((va_up (va_up i1_ 87 (upd (i1_ 87) (Int32.toNatClampNeg 1) (-9))) 87 (upd ((va_up i1_ 87 (upd (i1_ 87) (Int32.toNatClampNeg 1) (-9))) 87) (Int32.toNatClampNeg 2) (-9))) 87) (Int32.toNatClampNeg 3) (-9))) 128 (upd ((va_up (va_up (va_up i1_ 87 (upd (i1_ 87) (Int32.toNatClampNeg 1) (-9))) 87 (upd ((va_up i1_ 87 (upd (i1_ 87) (Int32.toNatClampNeg 1) (-9))) 87) (Int32.toNatClampNeg 2) (-9))) 87 (upd ((va_up (va_up i1_ 87 (upd (i1_ 87) (Int32.toNatClampNeg 1) (-9))) 87 (upd ((va_up i1_ 87 (upd (i1_ 87) (Int32.toNatClampNeg 1) (-9))) 87) (Int32.toNatClampNeg 2) (-9))) 87) (Int32.toNatClampNeg 3) (-9))) 128) (Int32.toNatClampNeg 0) (-9))) 128) (Int32.toNatClampNeg 1) (-9)))
def okC (z : Nat → Nat → Bool) (i : Nat → Nat → Int32) (k j : Nat) : Bool := if rtt k j = 0 then decide (i k j = i0 k j) else (z k j == zz k j) && (if rtt k j = 1000 then decide (i k j = i0 k j) else true)
theorem okC_s {z : Nat → Nat → Bool} {i : Nat → Nat → Int32} {k j : Nat} (h : okC z i k j = true) : (rtt k j = 0 → i k j = i0 k j) ∧ (¬ rtt k j = 0 → z k j = zz k j ∧ (rtt k j = 1000 → i k j = i0 k j)) := by
  unfold okC at h
  by_cases h1 : rtt k j = 0
  · rw [if_pos h1] at h
    exact ⟨fun _ => of_decide_eq_true h, fun q => absurd h1 q⟩
  · rw [if_neg h1] at h
    have h2 := (Bool.and_eq_true _ _).mp h
    refine ⟨fun q => absurd q h1, fun _ => ⟨eq_of_beq h2.1, fun q => ?_⟩⟩
    have h3 := h2.2
    rw [if_pos q] at h3
    exact of_decide_eq_true h3
theorem okC_a {z : Nat → Nat → Bool} {i : Nat → Nat → Int32} {n : Nat} (h : (List.range n).all (fun k => !(decide (ckd k < 50)) || (List.range (cnn k)).all (fun j => okC z i k j)) = true) {k : Nat} (hk : k < n) (hc : ckd k < 50) : ∀ j, j < cnn k → (rtt k j = 0 → i k j = i0 k j) ∧ (¬ rtt k j = 0 → z k j = zz k j ∧ (rtt k j = 1000 → i k j = i0 k j)) := fun j hj => by
  have h1 := List.all_eq_true.mp h k (List.mem_range.mpr hk)
  rw [decide_eq_true hc] at h1
  exact okC_s (List.all_eq_true.mp h1 j (List.mem_range.mpr hj))
theorem cgC : (List.range 78).all (fun k => !(decide (ckd k < 50)) || (List.range (cnn k)).all (fun j => okC zC_ iC_ k j)) = true := by decide +kernel
theorem cgM : (List.range 130).all (fun k => !(decide (78 ≤ k ∧ ckd k < 50)) || (List.range (cnn k)).all (fun j => okC zM_ iM_ k j)) = true := by decide +kernel
theorem okM_a {k : Nat} (hk : k < 130) (h7 : 78 ≤ k) (hc : ckd k < 50) : ∀ j, j < cnn k → (rtt k j = 0 → iM_ k j = i0 k j) ∧ (¬ rtt k j = 0 → zM_ k j = zz k j ∧ (rtt k j = 1000 → iM_ k j = i0 k j)) := fun j hj => by
  have h1 := List.all_eq_true.mp cgM k (List.mem_range.mpr hk)
  rw [decide_eq_true ⟨h7, hc⟩] at h1
  exact okC_s (List.all_eq_true.mp h1 j (List.mem_range.mpr hj))
theorem cgFC {k : Nat} (hk : k < 78) : i1_ k = F0_ k := by
  funext j
  unfold i1_ F0_
  rw [if_neg (by omega), if_neg (by omega)]
theorem cgFM (k : Nat) : FM_ k = F0_ k := by
  funext j
  unfold FM_ F0_
  by_cases h1 : k = 87
  · subst h1
    rw [if_pos rfl]
    simp only [va_up, upd, i1_, show (Int32.toNatClampNeg 1) = 1 from rfl, show (Int32.toNatClampNeg 2) = 2 from rfl, show (Int32.toNatClampNeg 3) = 3 from rfl, show (Int32.toNatClampNeg 0) = 0 from rfl, if_true, show (87 : Nat) = 128 ↔ False from by decide, if_false]
    (repeat' split) <;> first | rfl | omega
  · by_cases h2 : k = 128
    · subst h2
      rw [if_neg (by decide), if_pos rfl]
      simp only [va_up, upd, i1_, show (Int32.toNatClampNeg 1) = 1 from rfl, show (Int32.toNatClampNeg 2) = 2 from rfl, show (Int32.toNatClampNeg 3) = 3 from rfl, show (Int32.toNatClampNeg 0) = 0 from rfl, if_true, show (128 : Nat) = 87 ↔ False from by decide, if_false]
      (repeat' split) <;> first | rfl | omega
    · rw [if_neg h1, if_neg h2]
      simp only [va_up, h1, h2, if_false, i1_]
theorem fr0 : Fr 0 z1_ i1_ i1_ G0_ := fun k _ j => ⟨rfl, rfl, rfl, rfl⟩

theorem inr0 {k : Nat} {a c : Int} (hk : k ≠ 87 ∧ k ≠ 128) (ha : a ≤ 0) (hc : 0 < c) : inR (F0_ k) a c := fun j => by
  have e : F0_ k j = 0 := by unfold F0_; rw [if_neg hk.1, if_neg hk.2]
  rw [e]
  have : Int32.toInt 0 = 0 := rfl
  omega
theorem f00 {k j : Nat} (hk : k ≠ 87 ∧ k ≠ 128) : F0_ k j = 0 := by unfold F0_; rw [if_neg hk.1, if_neg hk.2]
theorem ic0 : IC i0 F0_ := by
  refine ⟨by decide, fun j => ?_, by decide, fun j => ?_, by decide, ⟨by decide, by decide, by decide, inr0 (by decide) (by decide) (by decide), inr0 (by decide) (by decide) (by decide), inr0 (by decide) (by decide) (by decide), inr0 (by decide) (by decide) (by decide)⟩, Pp17.zero (by decide), by decide, ⟨by decide, by decide, by decide, inr0 (by decide) (by decide) (by decide), inr0 (by decide) (by decide) (by decide), inr0 (by decide) (by decide) (by decide), inr0 (by decide) (by decide) (by decide)⟩, Pp48.zero (by decide), ⟨by decide, by decide⟩, Or.inl ⟨rfl, rfl⟩, by decide⟩
  · rw [f00 (by decide)]; decide
  · rw [f00 (by decide)]; decide
theorem imm0 : IMm i0 F0_ := by
  have z : Int32.toInt 0 = 0 := rfl
  refine ⟨by decide, fun j => ?_, by decide, rfl, ⟨by decide, fun k => ?_, fun k hk => absurd hk (show ¬ (k : Int) < Int32.toInt 0 from by omega)⟩, fun j => ?_, ⟨fun b hb => Or.inr ?_, inr0 (by decide) (by decide) (by decide), inr0 (by decide) (by decide) (by decide)⟩, by decide, by decide, fun w => absurd w (by decide), fun k => ?_, inr0 (by decide) (by decide) (by decide)⟩
  · rw [f00 (by decide)]; decide
  · rw [f00 (by decide), f00 (by decide)]; decide
  · rw [f00 (by decide)]; decide
  · rw [f00 (k := 100) (by decide), f00 (by decide)]
    omega
  · rw [f00 (by decide), f00 (by decide)]; decide
theorem sT0 {n : Int32} {g : Nat → Int64} {t : Int64} (hn : n = 0) : ¬ sT n g t := fun ⟨j, hj, _⟩ => by
  rw [hn] at hj
  have z : Int32.toInt 0 = 0 := rfl
  omega
theorem li0 : LI (i0, F0_, G0_) (i0, F0_, G0_) := by
  have z : Int32.toInt 0 = 0 := rfl
  refine ⟨fun _ => False, ⟨ic0, ⟨by decide, by decide, by decide, by decide, by decide⟩, by decide, fun j hj => absurd hj (show ¬ (j : Int) < Int32.toInt 0 from by omega), fun t => ⟨fun h => h.elim, fun h => sT0 rfl h⟩⟩, ⟨imm0, ⟨by decide, by decide, by decide, by decide, by decide⟩, fun t => ⟨fun h => h.elim, fun h => ?_⟩⟩, rfl, rfl, rfl, rfl, rfl⟩
  rcases h with ((h | h) | h) | h
  · exact sT0 rfl h
  · obtain ⟨j, hj, _⟩ := h
    exact absurd hj (show ¬ (j : Int) < Int32.toInt 0 from by omega)
  · exact sT0 rfl h
  · obtain ⟨j, hj, _⟩ := h
    exact absurd hj (show ¬ (j : Int) < Int32.toInt 0 from by omega)

