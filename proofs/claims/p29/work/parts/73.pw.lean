/-! the writing's walk over the tree: each node is met once -/
def vmk (V : Nat → Bool) (n : Nat) : Nat → Bool := fun k => if k = n then true else V k
def vcn (V : Nat → Bool) : Nat → Nat
  | 0 => 0
  | n + 1 => vcn V n + (if V n = true then 1 else 0)
theorem vmk_s {V : Nat → Bool} {n : Nat} : vmk V n n = true := by unfold vmk; rw [if_pos rfl]
theorem vmk_n {V : Nat → Bool} {n k : Nat} (h : k ≠ n) : vmk V n k = V k := by unfold vmk; rw [if_neg h]
theorem vmk_t {V : Nat → Bool} {n k : Nat} (h : V k = true) : vmk V n k = true := by
  by_cases q : k = n
  · rw [q]; exact vmk_s
  · rw [vmk_n q]; exact h
theorem vcn_le (V : Nat → Bool) (n : Nat) : vcn V n ≤ n := by
  induction n with
  | zero => exact Nat.le_refl 0
  | succ n ih => unfold vcn; split <;> omega
theorem vcn_ge {V : Nat → Bool} {n N : Nat} (h : N ≤ n) : vcn (vmk V n) N = vcn V N := by
  induction N with
  | zero => rfl
  | succ N ih => unfold vcn; rw [ih (by omega), vmk_n (by omega)]
theorem vcn_mk {V : Nat → Bool} {n N : Nat} (h : V n = false) (hn : n < N) : vcn (vmk V n) N = vcn V N + 1 := by
  induction N with
  | zero => omega
  | succ N ih =>
    unfold vcn
    by_cases q : n = N
    · subst q
      rw [vcn_ge (Nat.le_refl _), vmk_s, h]
      simp
    · rw [ih (by omega), vmk_n (fun w => q w.symm)]
      omega
theorem vcn_z (N : Nat) : vcn (fun _ => false) N = 0 := by
  induction N with
  | zero => rfl
  | succ N ih => unfold vcn; rw [ih]; rfl
def vE (V : Nat → Bool) (hp : Nat → Nat) (b : Nat) : Prop := b = 0 ∨ V (hp b) = true
theorem vE.mk {V : Nat → Bool} {hp : Nat → Nat} {b n : Nat} (h : vE V hp b) : vE (vmk V n) hp b := h.imp id vmk_t
def NV (g : Nat → Int32) (ni np : Nat) (po hp : Nat → Nat) (V : Nat → Bool) : Prop := (∀ p, p < np → V p = true → V (2000 + po p) = true) ∧ (∀ x, x < ni → V (2000 + x) = true → vE V hp (cl (g x))) ∧ (∀ x, x < ni → V (4000 + x) = true → V (2000 + x) = true)
def fmO (g r : Nat → Int32) (ni np : Nat) (po pr : Nat → Nat) (V : Nat → Bool) (b x p : Int32) : Prop := (0 ≤ x.toInt ∧ x.toInt < ni) ∧ g (cl x) = b ∧ (∀ y, y < ni → g y = b → (r (cl x)).toInt ≤ (r y).toInt → V (4000 + y) = false ∧ ((r (cl x)).toInt < (r y).toInt ∨ p.toInt = -1 → V (2000 + y) = false)) ∧ (p.toInt = -1 ∨ (V (2000 + cl x) = true ∧ (p.toInt = -9 ∨ ((0 ≤ p.toInt ∧ p.toInt < np) ∧ po (cl p) = cl x ∧ ∀ q, q < np → po q = cl x → pr (cl p) ≤ pr q → V q = false))))
def fm (g r : Nat → Int32) (nb ni np : Nat) (po pr hp : Nat → Nat) (V : Nat → Bool) (d : Nat) (b x p : Int32) : Prop := ((d : Int) ≤ b.toInt ∧ b.toInt < nb) ∧ vE V hp (cl b) ∧ (x.toInt = -9 ∨ fmO g r ni np po pr V b x p)
def PW (nb ni np : Nat) (po pr hp : Nat → Nat) (V : Nat → Bool) (i F : Nat → Nat → Int32) : Prop := TO nb ni np po pr hp F ∧ NV (F 105) ni np po hp V ∧ 0 ≤ (i 78 63).toInt ∧ (∀ d : Nat, (d : Int) < (i 78 63).toInt → fm (F 105) (F 106) nb ni np po pr hp V d (F 116 d) (F 117 d) (F 118 d)) ∧ (∀ d e : Nat, d < e → (e : Int) < (i 78 63).toInt → (F 116 d).toInt < (F 116 e).toInt)
theorem TO.cg {nb ni np : Nat} {po pr hp : Nat → Nat} {F F2 : Nat → Nat → Int32} (h : TO nb ni np po pr hp F) (hf : ∀ k, 100 ≤ k → k ≤ 112 → F2 k = F k) : TO nb ni np po pr hp F2 := by
  unfold TO okB okP okI okQ okN okV at h ⊢
  rw [hf 100 (by decide) (by decide), hf 101 (by decide) (by decide), hf 102 (by decide) (by decide), hf 103 (by decide) (by decide), hf 104 (by decide) (by decide), hf 105 (by decide) (by decide), hf 106 (by decide) (by decide), hf 107 (by decide) (by decide), hf 108 (by decide) (by decide), hf 109 (by decide) (by decide), hf 110 (by decide) (by decide), hf 111 (by decide) (by decide), hf 112 (by decide) (by decide)]
  exact h
theorem fm.mk {g r : Nat → Int32} {nb ni np : Nat} {po pr hp : Nat → Nat} {V : Nat → Bool} {d n : Nat} {b x p : Int32} (h : fm g r nb ni np po pr hp V d b x p) (hn : ∀ y, y < ni → g y = b → 4000 + y ≠ n ∧ 2000 + y ≠ n) (hq : ∀ q, q < np → g (po q) = b → q ≠ n) : fm g r nb ni np po pr hp (vmk V n) d b x p := by
  obtain ⟨h1, h2, h3⟩ := h
  refine ⟨h1, h2.mk, ?_⟩
  rcases h3 with h3 | ⟨a1, a2, a3, a4⟩
  · exact Or.inl h3
  · refine Or.inr ⟨a1, a2, fun y hy e w => ?_, ?_⟩
    · have k := hn y hy e
      rw [vmk_n k.1, vmk_n k.2]
      exact a3 y hy e w
    · rcases a4 with a4 | ⟨a4, a5⟩
      · exact Or.inl a4
      · refine Or.inr ⟨vmk_t a4, ?_⟩
        rcases a5 with a5 | ⟨a5, a6, a7⟩
        · exact Or.inl a5
        · refine Or.inr ⟨a5, a6, fun q hq1 hq2 hq3 => ?_⟩
          rw [vmk_n (hq q hq1 (by rw [hq2]; exact a2))]
          exact a7 q hq1 hq2 hq3
/-- the top frame steps, node n is met -/
theorem PW.step {nb ni np D n : Nat} {po pr hp : Nat → Nat} {V : Nat → Bool} {i F i2 F2 : Nat → Nat → Int32} (h : PW nb ni np po pr hp V i F) (hD : (D : Int) + 1 = (i 78 63).toInt) (hi : i2 78 63 = i 78 63) (hf : ∀ k, 100 ≤ k → k ≤ 112 → F2 k = F k) (e6 : F2 116 = F 116) (e7 : ∀ d, d ≠ D → F2 117 d = F 117 d) (e8 : ∀ d, d ≠ D → F2 118 d = F 118 d)
    (hn : ∀ y, y < ni → F 105 y ≠ F 116 D → 4000 + y ≠ n ∧ 2000 + y ≠ n) (hq : ∀ q, q < np → F 105 (po q) ≠ F 116 D → q ≠ n) (hNV : NV (F 105) ni np po hp (vmk V n)) (hT : fm (F 105) (F 106) nb ni np po pr hp (vmk V n) D (F 116 D) (F2 117 D) (F2 118 D)) : PW nb ni np po pr hp (vmk V n) i2 F2 := by
  obtain ⟨h1, h2, h3, h4, h5⟩ := h
  have f5 := hf 105 (by decide) (by decide)
  have f6 := hf 106 (by decide) (by decide)
  refine ⟨h1.cg hf, by rw [f5]; exact hNV, by rw [hi]; exact h3, fun d hd => ?_, fun d e hde he => ?_⟩
  · rw [hi] at hd
    rw [f5, f6, e6]
    by_cases q : d = D
    · rw [q]; exact hT
    · rw [e7 d q, e8 d q]
      have hne : F 116 d ≠ F 116 D := fun w => by
        have := h5 d D (by omega) (by omega)
        rw [w] at this
        omega
      exact (h4 d hd).mk (fun y hy e => hn y hy (by rw [e]; exact hne)) (fun q hq1 hq2 => hq q hq1 (by rw [hq2]; exact hne))
  · rw [hi] at he
    rw [e6]
    exact h5 d e hde he
theorem PW.top {nb ni np D : Nat} {po pr hp : Nat → Nat} {V : Nat → Bool} {i F : Nat → Nat → Int32} (h : PW nb ni np po pr hp V i F) (hD : (D : Int) + 1 = (i 78 63).toInt) (hx : ¬ (F 117 D).toInt = -9) : fmO (F 105) (F 106) ni np po pr V (F 116 D) (F 117 D) (F 118 D) := (h.2.2.2.1 D (by omega)).2.2.resolve_left hx
/-- an item begins -/
theorem PW.s2 {nb ni np D : Nat} {po pr hp : Nat → Nat} {V : Nat → Bool} {i F i2 F2 : Nat → Nat → Int32} (h : PW nb ni np po pr hp V i F) (hD : (D : Int) + 1 = (i 78 63).toInt) (hx : ¬ (F 117 D).toInt = -9) (hp1 : (F 118 D).toInt = -1) (hi : i2 78 63 = i 78 63) (hf : ∀ k, 100 ≤ k → k ≤ 112 → F2 k = F k) (e6 : F2 116 = F 116) (e7 : F2 117 = F 117) (e8 : F2 118 = upd (F 118) D (F 109 (cl (F 117 D)))) : V (2000 + cl (F 117 D)) = false ∧ cl (F 117 D) < 1202 ∧ PW nb ni np po pr hp (vmk V (2000 + cl (F 117 D))) i2 F2 := by
  have hF := h.2.2.2.1 D (by omega)
  obtain ⟨a1, a2, a3, a4⟩ := h.top hD hx
  have hT := h.1
  obtain ⟨n1, n2, n3⟩ := h.2.1
  have c := clI (x := F 117 D) a1.1
  have c : ((cl (F 117 D) : Nat) : Int) = (F 117 D).toInt := c
  have hlt : cl (F 117 D) < ni := by omega
  have hV : V (2000 + cl (F 117 D)) = false := (a3 _ hlt a2 (Int.le_refl _)).2 (Or.inr hp1)
  have hni := hT.1
  refine ⟨hV, by omega, ?_⟩
  refine h.step hD hi hf e6 (fun d _ => by rw [e7]) (fun d q => by rw [e8, upd_n q]) (fun y hy e => ⟨by omega, fun w => e ?_⟩) (fun q hq _ => by omega) ⟨fun p hp2 w => ?_, fun x hx2 w => ?_, fun x hx2 w => ?_⟩ ?_
  · rw [show y = cl (F 117 D) by omega]; exact a2
  · rw [vmk_n (by omega)] at w
    exact vmk_t (n1 p hp2 w)
  · by_cases q : x = cl (F 117 D)
    · rw [q, a2]; exact hF.2.1.mk
    · rw [vmk_n (by omega)] at w
      exact (n2 x hx2 w).mk
  · rw [vmk_n (by omega)] at w
    exact vmk_t (n3 x hx2 w)
  · rw [e7, e8, upd_s]
    have hQ := hT.2.2.2.2.1 _ hlt
    unfold okQ at hQ
    have hne : ¬ (F 109 (cl (F 117 D))).toInt = -1 := by
      rcases hQ with ⟨-, z, -⟩ | ⟨-, z, -⟩ <;> omega
    refine ⟨hF.1, hF.2.1.mk, Or.inr ⟨a1, a2, fun y hy e w => ⟨?_, fun w2 => ?_⟩, Or.inr ⟨vmk_s, ?_⟩⟩⟩
    · rw [vmk_n (by omega)]; exact (a3 y hy e w).1
    · rcases w2 with w2 | w2
      · rw [vmk_n (fun q => by
          have : y = cl (F 117 D) := by omega
          rw [this] at w2
          omega)]
        exact (a3 y hy e w).2 (Or.inl w2)
      · exact absurd w2 hne
    · rcases hQ with ⟨-, z, -⟩ | ⟨-, z2, -, ⟨z4, -⟩, -⟩
      · exact Or.inl z
      · refine Or.inr ⟨z2, z4, fun q hq1 hq2 _ => ?_⟩
        rw [vmk_n (by omega)]
        rcases Bool.eq_false_or_eq_true (V q) with w | w
        · have := n1 q hq1 w
          rw [hq2, hV] at this
          exact absurd this (by decide)
        · exact w
/-- an item ends -/
theorem PW.s3 {nb ni np D : Nat} {po pr hp : Nat → Nat} {V : Nat → Bool} {i F i2 F2 : Nat → Nat → Int32} (h : PW nb ni np po pr hp V i F) (hD : (D : Int) + 1 = (i 78 63).toInt) (hx : ¬ (F 117 D).toInt = -9) (hp1 : (F 118 D).toInt = -9) (hi : i2 78 63 = i 78 63) (hf : ∀ k, 100 ≤ k → k ≤ 112 → F2 k = F k) (e6 : F2 116 = F 116) (e7 : F2 117 = upd (F 117) D (F 107 (cl (F 117 D)))) (e8 : F2 118 = upd (F 118) D (-1)) : V (4000 + cl (F 117 D)) = false ∧ cl (F 117 D) < 1202 ∧ PW nb ni np po pr hp (vmk V (4000 + cl (F 117 D))) i2 F2 := by
  have hF := h.2.2.2.1 D (by omega)
  obtain ⟨a1, a2, a3, a4⟩ := h.top hD hx
  have hT := h.1
  obtain ⟨n1, n2, n3⟩ := h.2.1
  have c := clI (x := F 117 D) a1.1
  have c : ((cl (F 117 D) : Nat) : Int) = (F 117 D).toInt := c
  have hlt : cl (F 117 D) < ni := by omega
  have hni := hT.1
  have hS : V (2000 + cl (F 117 D)) = true := by
    rcases a4 with a4 | ⟨a4, -⟩
    · omega
    · exact a4
  refine ⟨(a3 _ hlt a2 (Int.le_refl _)).1, by omega, ?_⟩
  refine h.step hD hi hf e6 (fun d q => by rw [e7, upd_n q]) (fun d q => by rw [e8, upd_n q]) (fun y hy e => ⟨fun w => e ?_, by omega⟩) (fun q hq _ => by omega) ⟨fun p hp2 w => ?_, fun x hx2 w => ?_, fun x hx2 w => ?_⟩ ?_
  · rw [show y = cl (F 117 D) by omega]; exact a2
  · rw [vmk_n (by omega)] at w
    exact vmk_t (n1 p hp2 w)
  · rw [vmk_n (by omega)] at w
    exact (n2 x hx2 w).mk
  · by_cases q : x = cl (F 117 D)
    · rw [q]; exact vmk_t hS
    · rw [vmk_n (by omega)] at w
      exact vmk_t (n3 x hx2 w)
  · rw [e7, e8, upd_s, upd_s]
    refine ⟨hF.1, hF.2.1.mk, ?_⟩
    have hI := hT.2.2.2.1 _ hlt
    unfold okI at hI
    rcases hI.2 with ⟨z, -⟩ | ⟨⟨z1, z2⟩, -, z3, z4⟩
    · exact Or.inl z
    · refine Or.inr ⟨⟨by omega, z2⟩, by rw [z3]; exact a2, fun y hy e w => ?_, Or.inl (by decide)⟩
      have hr : (F 106 (cl (F 117 D))).toInt < (F 106 y).toInt := by omega
      have hne : y ≠ cl (F 117 D) := fun q => by rw [q] at hr; omega
      have k := a3 y hy e (by omega)
      rw [vmk_n (by omega), vmk_n (by omega)]
      exact ⟨k.1, fun _ => k.2 (Or.inl hr)⟩
/-- a part is taken -/
theorem PW.s4 {nb ni np D : Nat} {po pr hp : Nat → Nat} {V : Nat → Bool} {i F i2 F2 : Nat → Nat → Int32} {v : Int32} (h : PW nb ni np po pr hp V i F) (hD : (D : Int) + 1 = (i 78 63).toInt) (hx : ¬ (F 117 D).toInt = -9) (hp1 : ¬ (F 118 D).toInt = -1) (hp9 : ¬ (F 118 D).toInt = -9) (hi : i2 78 63 = i 78 63) (hf : ∀ k, 100 ≤ k → k ≤ 112 → F2 k = F k) (e6 : F2 116 = F 116) (e7 : F2 117 = F 117) (e8 : F2 118 = upd (F 118) D (F 112 (cl (F 118 D)))) (hv : v = F 111 (cl (F 118 D))) : V (cl (F 118 D)) = false ∧ cl (F 118 D) < 1802 ∧ PW nb ni np po pr hp (vmk V (cl (F 118 D))) i2 F2 ∧ ((0 ≤ v.toInt ∧ v.toInt < 600) ∨ (v.toInt ≤ -101 ∧ -100 - v.toInt < nb ∧ (i 78 63).toInt ≤ -100 - v.toInt ∧ (∀ d : Nat, (d : Int) < (i 78 63).toInt → (F 116 d).toInt < -100 - v.toInt) ∧ vE (vmk V (cl (F 118 D))) hp (-100 - v.toInt).toNat ∧ ∀ y, y < ni → (F 105 y).toInt = -100 - v.toInt → vmk V (cl (F 118 D)) (2000 + y) = false ∧ vmk V (cl (F 118 D)) (4000 + y) = false)) := by
  have hF := h.2.2.2.1 D (by omega)
  obtain ⟨a1, a2, a3, a4⟩ := h.top hD hx
  have hT := h.1
  obtain ⟨n1, n2, n3⟩ := h.2.1
  have c := clI (x := F 117 D) a1.1
  have c : ((cl (F 117 D) : Nat) : Int) = (F 117 D).toInt := c
  have hni := hT.1
  obtain ⟨hS, ⟨b1, b2, b3⟩⟩ : V (2000 + cl (F 117 D)) = true ∧ ((0 ≤ (F 118 D).toInt ∧ (F 118 D).toInt < np) ∧ po (cl (F 118 D)) = cl (F 117 D) ∧ ∀ q, q < np → po q = cl (F 117 D) → pr (cl (F 118 D)) ≤ pr q → V q = false) := by
    rcases a4 with a4 | ⟨a4, a5 | a5⟩
    · exact absurd a4 hp1
    · exact absurd a5 hp9
    · exact ⟨a4, a5⟩
  have cp := clI (x := F 118 D) b1.1
  have cp : ((cl (F 118 D) : Nat) : Int) = (F 118 D).toInt := cp
  have hlt : cl (F 118 D) < np := by omega
  have hV : V (cl (F 118 D)) = false := b3 _ hlt b2 (Nat.le_refl _)
  obtain ⟨r1, r2, r3⟩ := hT.2.2.2.2.2 _ hlt
  have hown : F 105 (po (cl (F 118 D))) = F 116 D := by rw [b2]; exact a2
  refine ⟨hV, by omega, ?_, ?_⟩
  · refine h.step hD hi hf e6 (fun d _ => by rw [e7]) (fun d q => by rw [e8, upd_n q]) (fun y hy e => ⟨by omega, by omega⟩) (fun q hq e w => e (by rw [w]; exact hown)) ⟨fun p hp2 w => ?_, fun x hx2 w => ?_, fun x hx2 w => ?_⟩ ?_
    · by_cases q : p = cl (F 118 D)
      · rw [q, b2]; exact vmk_t hS
      · rw [vmk_n q] at w
        exact vmk_t (n1 p hp2 w)
    · rw [vmk_n (by omega)] at w
      exact (n2 x hx2 w).mk
    · rw [vmk_n (by omega)] at w
      exact vmk_t (n3 x hx2 w)
    · rw [e7, e8, upd_s]
      unfold okN at r2
      have hne : ¬ (F 112 (cl (F 118 D))).toInt = -1 := by rcases r2 with ⟨z, -⟩ | ⟨⟨z, -⟩, -⟩ <;> omega
      refine ⟨hF.1, hF.2.1.mk, Or.inr ⟨a1, a2, fun y hy e w => ?_, Or.inr ⟨vmk_t hS, ?_⟩⟩⟩
      · have k := a3 y hy e w
        rw [vmk_n (by omega), vmk_n (by omega)]
        exact ⟨k.1, fun w2 => k.2 (w2.imp id (fun z => absurd z hne))⟩
      · rcases r2 with ⟨z, -⟩ | ⟨⟨z1, z2⟩, -, z3, z4⟩
        · exact Or.inl z
        · refine Or.inr ⟨⟨by omega, z2⟩, by rw [z3]; exact b2, fun q hq1 hq2 hq3 => ?_⟩
          rw [vmk_n (fun w => by rw [w, z4] at hq3; omega)]
          exact b3 q hq1 hq2 (by omega)
  · unfold okV at r3
    rw [← hv] at r3
    rcases r3 with r3 | ⟨z1, z2, z3, z4⟩
    · exact Or.inl r3
    · rw [hown] at z3
      have hb := hF.1
      refine Or.inr ⟨z1, z2, by omega, fun d hd => ?_, Or.inr (by rw [z4]; exact vmk_s), fun y hy e => ?_⟩
      · by_cases q : d = D
        · rw [q]; exact z3
        · have := h.2.2.2.2 d D (by omega) (by omega)
          omega
      · have hS2 : V (2000 + y) = false := by
          rcases Bool.eq_false_or_eq_true (V (2000 + y)) with w | w
          · exfalso
            have k := n2 y hy w
            have hcy : cl (F 105 y) = (-100 - v.toInt).toNat := cle (by omega)
            rw [hcy] at k
            rcases k with k | k
            · omega
            · rw [z4, hV] at k
              exact absurd k (by decide)
          · exact w
        rw [vmk_n (by omega), vmk_n (by omega)]
        refine ⟨hS2, ?_⟩
        rcases Bool.eq_false_or_eq_true (V (4000 + y)) with w | w
        · have := n3 y hy w
          rw [hS2] at this
          exact absurd this (by decide)
        · exact w
/-- a block is entered -/
theorem PW.s5 {nb ni np : Nat} {po pr hp : Nat → Nat} {V : Nat → Bool} {i F i2 F2 : Nat → Nat → Int32} {c : Int32} {g : Nat → Int32} {cI : Int} (h : PW nb ni np po pr hp V i F) (hc : c.toInt = cI) (hc1 : (i 78 63).toInt ≤ cI ∧ cI < nb) (hlt : ∀ d : Nat, (d : Int) < (i 78 63).toInt → (F 116 d).toInt < cI) (hE : vE V hp cI.toNat) (eg : F 105 = g) (hfr : ∀ y, y < ni → (g y).toInt = cI → V (2000 + y) = false ∧ V (4000 + y) = false) (hi : (i2 78 63).toInt = (i 78 63).toInt + 1) (hf : ∀ k, 100 ≤ k → k ≤ 112 → F2 k = F k) (e6 : F2 116 = upd (F 116) (cl (i 78 63)) c) (e7 : F2 117 = upd (F 117) (cl (i 78 63)) (F 103 (cl c))) (e8 : F2 118 = upd (F 118) (cl (i 78 63)) (-1)) : PW nb ni np po pr hp V i2 F2 := by
  obtain ⟨h1, h2, h3, h4, h5⟩ := h
  have f5 := hf 105 (by decide) (by decide)
  have f6 := hf 106 (by decide) (by decide)
  have cd := clI (x := i 78 63) h3
  have cd : ((cl (i 78 63) : Nat) : Int) = (i 78 63).toInt := cd
  have cc := clI (x := c) (by omega)
  have cc : ((cl c : Nat) : Int) = c.toInt := cc
  refine ⟨h1.cg hf, by rw [f5]; exact h2, by omega, fun d hd => ?_, fun d e hde he => ?_⟩
  · rw [f5, f6, e6, e7, e8]
    by_cases q : d = cl (i 78 63)
    · rw [q, upd_s, upd_s, upd_s]
      refine ⟨⟨by omega, by omega⟩, by rw [show cl c = cI.toNat by omega]; exact hE, ?_⟩
      have hB := h1.2.1 (cl c) (by omega)
      unfold okB at hB
      rcases hB with ⟨-, z, -⟩ | ⟨-, z2, -, ⟨z4, z5⟩, -⟩
      · exact Or.inl z
      · have ec : F 105 (cl (F 103 (cl c))) = c := Int32.toInt_inj.mp (by omega)
        refine Or.inr ⟨z2, ec, fun y hy e w => ?_, Or.inl (by decide)⟩
        have k := hfr y hy (by rw [← eg, e]; exact hc)
        exact ⟨k.2, fun _ => k.1⟩
    · rw [upd_n q, upd_n q, upd_n q]
      exact h4 d (by omega)
  · rw [e6]
    have q : d ≠ cl (i 78 63) := by omega
    rw [upd_n q]
    by_cases w : e = cl (i 78 63)
    · rw [w, upd_s, hc]; exact hlt d (by omega)
    · rw [upd_n w]; exact h5 d e hde (by omega)
theorem PW.s1 {nb ni np : Nat} {po pr hp : Nat → Nat} {V : Nat → Bool} {i F i2 : Nat → Nat → Int32} (h : PW nb ni np po pr hp V i F) (hi : (i2 78 63).toInt = (i 78 63).toInt - 1) (h1 : 1 ≤ (i 78 63).toInt) : PW nb ni np po pr hp V i2 F := ⟨h.1, h.2.1, by omega, fun d hd => h.2.2.2.1 d (by omega), fun d e hde he => h.2.2.2.2 d e hde (by omega)⟩
theorem PW.ro {A B : List Nat} {nb ni np : Nat} {po pr hp : Nat → Nat} {V : Nat → Bool} {i F i2 F2 : Nat → Nat → Int32} {G G2 : Nat → Nat → Int64} (h : PW nb ni np po pr hp V i F) (hon : RO A B i F G (i2, F2, G2)) (hA : ¬ 63 ∈ A) (hB : ∀ k ∈ ([100, 101, 102, 103, 104, 105, 106, 107, 108, 109, 110, 111, 112, 116, 117, 118] : List Nat), ¬ k ∈ B) : PW nb ni np po pr hp V i2 F2 := by
  have ef : ∀ k ∈ ([100, 101, 102, 103, 104, 105, 106, 107, 108, 109, 110, 111, 112, 116, 117, 118] : List Nat), F2 k = F k := fun k hk => (hon.2 k (hB k hk)).1
  have ei : i2 78 63 = i 78 63 := hon.1 78 63 (Or.inr hA)
  unfold PW at h ⊢
  rw [ei, ef 105 (by decide), ef 106 (by decide), ef 116 (by decide), ef 117 (by decide), ef 118 (by decide)]
  refine ⟨h.1.cg (fun k a1 a2 => ef k ?_), h.2⟩
  simp only [List.mem_cons, List.not_mem_nil, or_false]
  omega
theorem PW.zero {nb ni np : Nat} {po pr hp : Nat → Nat} {i F : Nat → Nat → Int32} (h : TO nb ni np po pr hp F) (hi : (i 78 63).toInt = 0) : PW nb ni np po pr hp (fun _ => false) i F := ⟨h, ⟨fun _ _ w => absurd w Bool.false_ne_true, fun _ _ w => absurd w Bool.false_ne_true, fun _ _ w => absurd w Bool.false_ne_true⟩, by omega, fun d hd => absurd hd (by omega), fun d e _ he => absurd he (by omega)⟩
theorem IMs.wr {s : Nat} {A B : List Nat} {i F i2 F2 : Nat → Nat → Int32} {G G2 : Nat → Nat → Int64} (h : IMs s i F) (hon : RO A B i F G (i2, F2, G2)) (hA : ∀ j ∈ ([12, 14, 15, 17, 19, 32, 40, 78] : List Nat), ¬ j ∈ A) (hB : ∀ k ∈ tcs, ¬ k ∈ B) (hB2 : ∀ k ∈ ([122, 123, 124] : List Nat), ¬ k ∈ B) (hw : 0 ≤ (i2 78 54).toInt ∧ (i2 78 54).toInt ≤ 4000) : IMs s i2 F2 := by
  have ei : ∀ j ∈ ([12, 14, 15, 17, 19, 32, 40, 78] : List Nat), i2 78 j = i 78 j := fun j hj => hon.1 78 j (Or.inr (hA j hj))
  have ef : ∀ k ∈ tcs, F2 k = F k := fun k hk => (hon.2 k (hB k hk)).1
  have eg : ∀ k ∈ ([122, 123, 124] : List Nat), F2 k = F k := fun k hk => (hon.2 k (hB2 k hk)).1
  obtain ⟨h1, h2, h3, h4, h5, h6, h7, h8, h9, h10, h11, h12⟩ := h
  exact ⟨by rw [ei 12 (by decide)]; exact h1, by rw [ef 85 (by decide)]; exact h2, by rw [ei 14 (by decide)]; exact h3, by rw [ei 17 (by decide)]; exact h4, TKm.ro h5 hon ⟨hA 19 (by decide), hB 89 (by decide), hB 90 (by decide), hB 92 (by decide)⟩, CB.ro h6 hon (hB 97 (by decide)), WA.ro h7 hon ⟨hB 95 (by decide), hB 100 (by decide), hB 105 (by decide)⟩, hw, by rw [ei 78 (by decide)]; exact h9, fun w => GTm.ro (h10 (by rw [← ei 15 (by decide)]; exact w)) hon (fun j hj => hA j (by revert j; decide)) hB, by rw [eg 122 (by decide), eg 123 (by decide)]; exact h11, by rw [eg 124 (by decide)]; exact h12⟩
