abbrev cl (x : Int32) : Nat := x.toNatClampNeg
theorem cle {x : Int32} {n : Nat} (h : x.toInt = n) : cl x = n := by
  have := clI (x := x) (by omega)
  show x.toNatClampNeg = n
  omega
def okB (F : Nat → Nat → Int32) (ni b : Nat) : Prop := ((F 102 b).toInt = 0 ∧ (F 103 b).toInt = -9 ∧ (F 104 b).toInt = -9) ∨ ((1 ≤ (F 102 b).toInt ∧ (F 102 b).toInt ≤ ni) ∧ (0 ≤ (F 103 b).toInt ∧ (F 103 b).toInt < ni) ∧ (0 ≤ (F 104 b).toInt ∧ (F 104 b).toInt < ni) ∧ ((F 105 (cl (F 103 b))).toInt = b ∧ (F 106 (cl (F 103 b))).toInt = 0) ∧ (F 105 (cl (F 104 b))).toInt = b ∧ (F 106 (cl (F 104 b))).toInt + 1 = (F 102 b).toInt)
def okP (F : Nat → Nat → Int32) (ni b : Nat) : Prop := (0 ≤ (F 100 b).toInt ∧ (F 100 b).toInt < ni) ∧ (0 ≤ (F 101 b).toInt ∧ (F 101 b).toInt < 600)
def okI (F : Nat → Nat → Int32) (nb ni x : Nat) : Prop := ((0 ≤ (F 105 x).toInt ∧ (F 105 x).toInt < nb) ∧ 0 ≤ (F 106 x).toInt) ∧ (((F 107 x).toInt = -9 ∧ (F 106 x).toInt + 1 = (F 102 (cl (F 105 x))).toInt ∧ (F 104 (cl (F 105 x))).toInt = x) ∨ ((x < (F 107 x).toInt ∧ (F 107 x).toInt < ni) ∧ (F 106 x).toInt + 1 < (F 102 (cl (F 105 x))).toInt ∧ F 105 (cl (F 107 x)) = F 105 x ∧ (F 106 (cl (F 107 x))).toInt = (F 106 x).toInt + 1))
def okQ (F : Nat → Nat → Int32) (np : Nat) (po pr : Nat → Nat) (x : Nat) : Prop := ((F 108 x).toInt = 0 ∧ (F 109 x).toInt = -9 ∧ (F 110 x).toInt = -9) ∨ ((1 ≤ (F 108 x).toInt ∧ (F 108 x).toInt ≤ np) ∧ (0 ≤ (F 109 x).toInt ∧ (F 109 x).toInt < np) ∧ (0 ≤ (F 110 x).toInt ∧ (F 110 x).toInt < np) ∧ (po (cl (F 109 x)) = x ∧ pr (cl (F 109 x)) = 0) ∧ po (cl (F 110 x)) = x ∧ (pr (cl (F 110 x)) : Int) + 1 = (F 108 x).toInt)
def okN (F : Nat → Nat → Int32) (np : Nat) (po pr : Nat → Nat) (p : Nat) : Prop := ((F 112 p).toInt = -9 ∧ (pr p : Int) + 1 = (F 108 (po p)).toInt ∧ (F 110 (po p)).toInt = p) ∨ ((p < (F 112 p).toInt ∧ (F 112 p).toInt < np) ∧ (pr p : Int) + 1 < (F 108 (po p)).toInt ∧ po (cl (F 112 p)) = po p ∧ pr (cl (F 112 p)) = pr p + 1)
def okV (F : Nat → Nat → Int32) (nb : Nat) (po hp : Nat → Nat) (p : Nat) : Prop := (0 ≤ (F 111 p).toInt ∧ (F 111 p).toInt < 600) ∨ ((F 111 p).toInt ≤ -101 ∧ -100 - (F 111 p).toInt < nb ∧ (F 105 (po p)).toInt < -100 - (F 111 p).toInt ∧ hp (-100 - (F 111 p).toInt).toNat = p)
def TO (nb ni np : Nat) (po pr hp : Nat → Nat) (F : Nat → Nat → Int32) : Prop := (nb ≤ 1202 ∧ ni ≤ 1202 ∧ np ≤ 1802) ∧ (∀ b, b < nb → okB F ni b) ∧ (∀ b, 0 < b → b < nb → okP F ni b) ∧ (∀ x, x < ni → okI F nb ni x) ∧ (∀ x, x < ni → okQ F np po pr x) ∧ ∀ p, p < np → po p < ni ∧ okN F np po pr p ∧ okV F nb po hp p
/-- the blocks around, of all that stands in the arrays -/
def WW (F : Nat → Nat → Int32) : Prop := ∀ b : Nat, 0 < b → (F 100 b).toInt = -9 ∨ ((0 ≤ (F 100 b).toInt ∧ (F 100 b).toInt < 1202) ∧ 0 ≤ (F 105 (cl (F 100 b))).toInt ∧ (F 105 (cl (F 100 b))).toInt < b)
/-- a new item in block b -/
theorem TO.item {nb ni np b : Nat} {po pr hp : Nat → Nat} {F F2 : Nat → Nat → Int32} {xb xi xc : Int32} (h : TO nb ni np po pr hp F) (hb : b < nb) (hi : ni < 1202) (hxb : xb.toInt = b) (hxi : xi.toInt = ni) (hxc : xc.toInt = (F 102 b).toInt + 1)
    (e5 : F2 105 = upd (F 105) ni xb) (e6 : F2 106 = upd (F 106) ni (F 102 b)) (e8 : F2 108 = upd (F 108) ni 0) (e9 : F2 109 = upd (F 109) ni (-9)) (e10 : F2 110 = upd (F 110) ni (-9)) (e4 : F2 104 = upd (F 104) b xi) (e2 : F2 102 = upd (F 102) b xc)
    (hc : ((F 104 b).toInt = -9 ∧ F2 103 = upd (F 103) b xi ∧ F2 107 = upd (F 107) ni (-9)) ∨ (¬ (F 104 b).toInt = -9 ∧ F2 103 = F 103 ∧ F2 107 = upd (upd (F 107) ni (-9)) (cl (F 104 b)) xi))
    (e0 : F2 100 = F 100) (e1 : F2 101 = F 101) (e11 : F2 111 = F 111) (e12 : F2 112 = F 112) : TO nb (ni + 1) np po pr hp F2 := by
  obtain ⟨⟨E1, E2, E3⟩, HB, HP, HI, HQ, HR⟩ := h
  have hnb : cl xb = b := cle hxb
  have hni : cl xi = ni := cle hxi
  have hB := HB b hb
  refine ⟨⟨E1, by omega, E3⟩, fun c hcn => ?_, fun c h0 hcn => ?_, fun x hx => ?_, fun x hx => ?_, fun p hp2 => ?_⟩
  · -- blocks
    by_cases q : c = b
    · subst q
      right
      have k2 : F2 102 c = xc := by rw [e2, upd_s]
      have k4 : F2 104 c = xi := by rw [e4, upd_s]
      have k5 : F2 105 ni = xb := by rw [e5, upd_s]
      have k6 : F2 106 ni = F 102 c := by rw [e6, upd_s]
      rw [k2, k4, hni, k5, k6]
      rcases hB with ⟨z1, z2, z3⟩ | ⟨z1, z2, z3, ⟨z4, z5⟩, z6, z7⟩
      · rcases hc with ⟨w1, w2, w3⟩ | ⟨w1, -⟩
        · have k3 : F2 103 c = xi := by rw [w2, upd_s]
          rw [k3, hni, k5, k6]
          refine ⟨⟨by omega, by omega⟩, ⟨by omega, by omega⟩, ⟨by omega, by omega⟩, ⟨by omega, by omega⟩, by omega, by omega⟩
        · exact absurd z3 w1
      · rcases hc with ⟨w1, -⟩ | ⟨w1, w2, w3⟩
        · omega
        · have hf := clI (x := F 103 c) z2.1
          rw [w2]
          have n3 : cl (F 103 c) ≠ ni := by show (F 103 c).toNatClampNeg ≠ ni; omega
          rw [e5, e6, upd_n n3, upd_n n3]
          refine ⟨⟨by omega, by omega⟩, ⟨by omega, by omega⟩, ⟨by omega, by omega⟩, ⟨by omega, by omega⟩, by omega, by omega⟩
    · have k2 : F2 102 c = F 102 c := by rw [e2, upd_n q]
      have k4 : F2 104 c = F 104 c := by rw [e4, upd_n q]
      have k3 : F2 103 c = F 103 c := by
        rcases hc with ⟨-, w2, -⟩ | ⟨-, w2, -⟩
        · rw [w2, upd_n q]
        · rw [w2]
      have hB2 := HB c hcn
      unfold okB at hB2 ⊢
      rw [k2, k3, k4]
      rcases hB2 with z | ⟨z1, z2, z3, ⟨z4, z5⟩, z6, z7⟩
      · exact Or.inl z
      · right
        have hf := clI (x := F 103 c) z2.1
        have hl := clI (x := F 104 c) z3.1
        have n3 : cl (F 103 c) ≠ ni := by show (F 103 c).toNatClampNeg ≠ ni; omega
        have n4 : cl (F 104 c) ≠ ni := by show (F 104 c).toNatClampNeg ≠ ni; omega
        rw [e5, e6, upd_n n3, upd_n n3, upd_n n4, upd_n n4]
        exact ⟨by omega, by omega, by omega, ⟨z4, z5⟩, z6, z7⟩
  · have := HP c h0 hcn
    unfold okP at this ⊢
    rw [e0, e1]
    omega
  · -- items
    by_cases q : x = ni
    · subst q
      have k5 : F2 105 x = xb := by rw [e5, upd_s]
      have k6 : F2 106 x = F 102 b := by rw [e6, upd_s]
      have k2 : F2 102 b = xc := by rw [e2, upd_s]
      have k4 : F2 104 b = xi := by rw [e4, upd_s]
      unfold okI
      rw [k5, k6, hnb, k2, k4]
      have k7 : F2 107 x = -9 := by
        rcases hc with ⟨-, -, w3⟩ | ⟨w1, -, w3⟩
        · rw [w3, upd_s]
        · rw [w3]
          rcases hB with ⟨-, -, z3⟩ | ⟨-, -, z3, -⟩
          · exact absurd z3 w1
          · have hl := clI (x := F 104 b) z3.1
            rw [upd_n (by show x ≠ (F 104 b).toNatClampNeg; omega), upd_s]
      rw [k7]
      have h0 : 0 ≤ (F 102 b).toInt := by rcases hB with ⟨z1, -⟩ | ⟨z1, -⟩ <;> omega
      exact ⟨⟨⟨by omega, by omega⟩, h0⟩, Or.inl ⟨rfl, by omega, by omega⟩⟩
    · have hx2 : x < ni := by omega
      have hI := HI x hx2
      have k5 : F2 105 x = F 105 x := by rw [e5, upd_n q]
      have k6 : F2 106 x = F 106 x := by rw [e6, upd_n q]
      unfold okI at hI ⊢
      obtain ⟨⟨⟨y1, y2⟩, y3⟩, y4⟩ := hI
      have hblk := clI (x := F 105 x) y1
      rw [k5, k6]
      by_cases w : cl (F 105 x) = b
      · rw [w] at y4 ⊢
        have k2 : F2 102 b = xc := by rw [e2, upd_s]
        have k4 : F2 104 b = xi := by rw [e4, upd_s]
        rw [k2, k4]
        rcases y4 with ⟨a1, a2, a3⟩ | ⟨⟨a1, a2⟩, a3, a4, a5⟩
        · -- x was the last one
          rcases hc with ⟨w1, -⟩ | ⟨w1, -, w3⟩
          · omega
          · have hxl : cl (F 104 b) = x := cle a3
            have k7 : F2 107 x = xi := by rw [w3, hxl, upd_s]
            rw [k7, hni]
            have k5n : F2 105 ni = xb := by rw [e5, upd_s]
            have k6n : F2 106 ni = F 102 b := by rw [e6, upd_s]
            rw [k5n, k6n]
            have wb : (F 105 x).toInt = b := by have : (F 105 x).toNatClampNeg = b := w; omega
            exact ⟨⟨⟨y1, y2⟩, y3⟩, Or.inr ⟨⟨by omega, by omega⟩, by omega, Int32.toInt_inj.mp (by omega), by omega⟩⟩
        · have hn := clI (x := F 107 x) (by omega)
          have hne : x ≠ cl (F 104 b) ∨ (F 104 b).toInt = -9 := by
            rcases hB with ⟨-, -, z3⟩ | ⟨-, -, z3, -, z6, z7⟩
            · exact Or.inr z3
            · left
              intro e
              rw [← e] at z7
              omega
          have k7 : F2 107 x = F 107 x := by
            rcases hc with ⟨-, -, w3⟩ | ⟨w1, -, w3⟩
            · rw [w3, upd_n q]
            · rw [w3, upd_n (hne.resolve_right w1), upd_n q]
          have nn : cl (F 107 x) ≠ ni := by show (F 107 x).toNatClampNeg ≠ ni; omega
          rw [k7, e5, e6, upd_n nn, upd_n nn]
          exact ⟨⟨⟨y1, y2⟩, y3⟩, Or.inr ⟨⟨a1, by omega⟩, by omega, a4, a5⟩⟩
      · have k2 : F2 102 (cl (F 105 x)) = F 102 (cl (F 105 x)) := by rw [e2, upd_n w]
        have k4 : F2 104 (cl (F 105 x)) = F 104 (cl (F 105 x)) := by rw [e4, upd_n w]
        rw [k2, k4]
        have hne : x ≠ cl (F 104 b) ∨ (F 104 b).toInt = -9 := by
          rcases hB with ⟨-, -, z3⟩ | ⟨-, -, z3, -, z6, z7⟩
          · exact Or.inr z3
          · left
            intro e
            rw [← e] at z6
            exact w (cle z6)
        have k7 : F2 107 x = F 107 x := by
          rcases hc with ⟨-, -, w3⟩ | ⟨w1, -, w3⟩
          · rw [w3, upd_n q]
          · rw [w3, upd_n (hne.resolve_right w1), upd_n q]
        rw [k7]
        rcases y4 with y4 | ⟨⟨a1, a2⟩, a3, a4, a5⟩
        · exact ⟨⟨⟨y1, y2⟩, y3⟩, Or.inl y4⟩
        · have hn := clI (x := F 107 x) (by omega)
          have nn : cl (F 107 x) ≠ ni := by show (F 107 x).toNatClampNeg ≠ ni; omega
          rw [e5, e6, upd_n nn, upd_n nn]
          exact ⟨⟨⟨y1, y2⟩, y3⟩, Or.inr ⟨⟨a1, by omega⟩, a3, a4, a5⟩⟩
  · -- parts of items
    unfold okQ
    by_cases q : x = ni
    · subst q
      rw [e8, e9, e10, upd_s, upd_s, upd_s]
      exact Or.inl ⟨rfl, rfl, rfl⟩
    · have := HQ x (by omega)
      unfold okQ at this
      rw [e8, e9, e10, upd_n q, upd_n q, upd_n q]
      exact this
  · obtain ⟨r1, r2, r3⟩ := HR p hp2
    have n1 : po p ≠ ni := by omega
    refine ⟨by omega, ?_, ?_⟩
    · unfold okN at r2 ⊢
      rw [e12, e8, e10, upd_n n1, upd_n n1]
      exact r2
    · unfold okV at r3 ⊢
      rw [e11, e5, upd_n n1]
      exact r3
theorem WW.item {nb ni np b : Nat} {po pr hp : Nat → Nat} {F F2 : Nat → Nat → Int32} {xb : Int32} (hw : WW F) (h : TO nb ni np po pr hp F) (hb : b < nb) (hxb : xb.toInt = b) (e5 : F2 105 = upd (F 105) ni xb) (e0 : F2 100 = F 100) : WW F2 := by
  intro c hc
  rw [e0, e5]
  rcases hw c hc with w | ⟨⟨w1, w2⟩, w3, w4⟩
  · exact Or.inl w
  · right
    have hcl := clI w1
    by_cases q : cl (F 100 c) = ni
    · rw [q, upd_s]
      have q2 : (F 100 c).toNatClampNeg = ni := q
      refine ⟨⟨w1, w2⟩, by omega, ?_⟩
      rcases Nat.lt_or_ge c nb with z | z
      · have := (h.2.2.1 c hc z).1
        omega
      · omega
    · rw [upd_n q]; exact ⟨⟨w1, w2⟩, w3, w4⟩
/-- a new part of item x -/
theorem TO.part {nb ni np x : Nat} {po pr hp hp2 : Nat → Nat} {F F2 : Nat → Nat → Int32} {v xp xc : Int32} (h : TO nb ni np po pr hp F) (hx : x < ni) (hp1 : np < 1802) (hxp : xp.toInt = np) (hxc : xc.toInt = (F 108 x).toInt + 1)
    (e11 : F2 111 = upd (F 111) np v) (e10 : F2 110 = upd (F 110) x xp) (e8 : F2 108 = upd (F 108) x xc)
    (hc : ((F 110 x).toInt = -9 ∧ F2 109 = upd (F 109) x xp ∧ F2 112 = upd (F 112) np (-9)) ∨ (¬ (F 110 x).toInt = -9 ∧ F2 109 = F 109 ∧ F2 112 = upd (upd (F 112) np (-9)) (cl (F 110 x)) xp))
    (e0 : F2 100 = F 100) (e1 : F2 101 = F 101) (e2 : F2 102 = F 102) (e3 : F2 103 = F 103) (e4 : F2 104 = F 104) (e5 : F2 105 = F 105) (e6 : F2 106 = F 106) (e7 : F2 107 = F 107)
    (hv : (0 ≤ v.toInt ∧ v.toInt < 600) ∨ (v.toInt ≤ -101 ∧ -100 - v.toInt < nb ∧ (F 105 x).toInt < -100 - v.toInt ∧ hp2 (-100 - v.toInt).toNat = np)) (hh : ∀ p, p < np → (F 111 p).toInt ≤ -101 → hp2 (-100 - (F 111 p).toInt).toNat = hp (-100 - (F 111 p).toInt).toNat) : ∃ po2 pr2, TO nb ni (np + 1) po2 pr2 hp2 F2 := by
  obtain ⟨⟨E1, E2, E3⟩, HB, HP, HI, HQ, HR⟩ := h
  have hnp : cl xp = np := cle hxp
  have hQx := HQ x hx
  refine ⟨fun p => if p = np then x else po p, fun p => if p = np then (F 108 x).toInt.toNat else pr p, ⟨E1, E2, by omega⟩, fun c hcn => ?_, fun c h0 hcn => ?_, fun y hy => ?_, fun y hy => ?_, fun p hp3 => ?_⟩
  · have := HB c hcn
    unfold okB at this ⊢
    rw [e2, e3, e4, e5, e6]
    exact this
  · have := HP c h0 hcn
    unfold okP at this ⊢
    rw [e0, e1]
    exact this
  · have := HI y hy
    unfold okI at this ⊢
    rw [e5, e6, e7, e2, e4]
    exact this
  · -- items' ends
    unfold okQ
    by_cases q : y = x
    · subst q
      right
      have k8 : F2 108 y = xc := by rw [e8, upd_s]
      have k10 : F2 110 y = xp := by rw [e10, upd_s]
      rw [k8, k10, hnp]
      unfold okQ at hQx
      rcases hQx with ⟨z1, z2, z3⟩ | ⟨z1, z2, z3, ⟨z4, z5⟩, z6, z7⟩
      · rcases hc with ⟨w1, w2, w3⟩ | ⟨w1, -⟩
        · have k9 : F2 109 y = xp := by rw [w2, upd_s]
          rw [k9, hnp]
          simp only [if_true]
          exact ⟨⟨by omega, by omega⟩, ⟨by omega, by omega⟩, ⟨by omega, by omega⟩, ⟨trivial, by omega⟩, trivial, by omega⟩
        · exact absurd z3 w1
      · rcases hc with ⟨w1, -⟩ | ⟨w1, w2, w3⟩
        · omega
        · rw [w2]
          have hf := clI (x := F 109 y) z2.1
          have n9 : cl (F 109 y) ≠ np := by show (F 109 y).toNatClampNeg ≠ np; omega
          simp only [if_neg n9, if_true]
          exact ⟨⟨by omega, by omega⟩, ⟨by omega, by omega⟩, ⟨by omega, by omega⟩, ⟨z4, z5⟩, trivial, by omega⟩
    · have k8 : F2 108 y = F 108 y := by rw [e8, upd_n q]
      have k10 : F2 110 y = F 110 y := by rw [e10, upd_n q]
      have k9 : F2 109 y = F 109 y := by
        rcases hc with ⟨-, w2, -⟩ | ⟨-, w2, -⟩
        · rw [w2, upd_n q]
        · rw [w2]
      rw [k8, k9, k10]
      have hQy := HQ y hy
      unfold okQ at hQy
      rcases hQy with z | ⟨z1, z2, z3, ⟨z4, z5⟩, z6, z7⟩
      · exact Or.inl z
      · right
        have hf := clI (x := F 109 y) z2.1
        have hl := clI (x := F 110 y) z3.1
        have n9 : cl (F 109 y) ≠ np := by show (F 109 y).toNatClampNeg ≠ np; omega
        have n10 : cl (F 110 y) ≠ np := by show (F 110 y).toNatClampNeg ≠ np; omega
        simp only [if_neg n9, if_neg n10]
        exact ⟨by omega, by omega, by omega, ⟨z4, z5⟩, z6, z7⟩
  · by_cases q : p = np
    · subst q
      simp only [if_true]
      have k8 : F2 108 x = xc := by rw [e8, upd_s]
      have k10 : F2 110 x = xp := by rw [e10, upd_s]
      refine ⟨hx, ?_, ?_⟩
      · unfold okN
        simp only [if_true]
        rw [k8, k10]
        have k12 : F2 112 p = -9 := by
          rcases hc with ⟨-, -, w3⟩ | ⟨w1, -, w3⟩
          · rw [w3, upd_s]
          · rw [w3]
            unfold okQ at hQx
            rcases hQx with ⟨-, -, z3⟩ | ⟨-, -, z3, -⟩
            · exact absurd z3 w1
            · have hl := clI (x := F 110 x) z3.1
              rw [upd_n (by show p ≠ (F 110 x).toNatClampNeg; omega), upd_s]
        have h0 : 0 ≤ (F 108 x).toInt := by unfold okQ at hQx; rcases hQx with ⟨z1, -⟩ | ⟨z1, -⟩ <;> omega
        exact Or.inl ⟨by rw [k12]; rfl, by omega, by omega⟩
      · unfold okV
        simp only [if_true]
        rw [e11, upd_s, e5]
        exact hv
    · have hp4 : p < np := by omega
      obtain ⟨r1, r2, r3⟩ := HR p hp4
      simp only [if_neg q]
      refine ⟨r1, ?_, ?_⟩
      · unfold okN at r2 ⊢
        simp only [if_neg q]
        by_cases w : po p = x
        · rw [w] at r2 ⊢
          have k8 : F2 108 x = xc := by rw [e8, upd_s]
          have k10 : F2 110 x = xp := by rw [e10, upd_s]
          rw [k8, k10]
          rcases r2 with ⟨a1, a2, a3⟩ | ⟨⟨a1, a2⟩, a3, a4, a5⟩
          · rcases hc with ⟨w1, -⟩ | ⟨w1, -, w3⟩
            · omega
            · have hxl : cl (F 110 x) = p := cle a3
              have k12 : F2 112 p = xp := by rw [w3, hxl, upd_s]
              rw [k12, hnp]
              simp only [if_true]
              exact Or.inr ⟨⟨by omega, by omega⟩, by omega, trivial, by omega⟩
          · have hn := clI (x := F 112 p) (by omega)
            have hne : p ≠ cl (F 110 x) ∨ (F 110 x).toInt = -9 := by
              unfold okQ at hQx
              rcases hQx with ⟨-, -, z3⟩ | ⟨-, -, z3, -, z6, z7⟩
              · exact Or.inr z3
              · left
                intro e
                rw [← e] at z7
                omega
            have k12 : F2 112 p = F 112 p := by
              rcases hc with ⟨-, -, w3⟩ | ⟨w1, -, w3⟩
              · rw [w3, upd_n q]
              · rw [w3, upd_n (hne.resolve_right w1), upd_n q]
            have nn : cl (F 112 p) ≠ np := by show (F 112 p).toNatClampNeg ≠ np; omega
            rw [k12]
            simp only [if_neg nn]
            exact Or.inr ⟨⟨a1, by omega⟩, by omega, a4, a5⟩
        · have k8 : F2 108 (po p) = F 108 (po p) := by rw [e8, upd_n w]
          have k10 : F2 110 (po p) = F 110 (po p) := by rw [e10, upd_n w]
          rw [k8, k10]
          have hne : p ≠ cl (F 110 x) ∨ (F 110 x).toInt = -9 := by
            unfold okQ at hQx
            rcases hQx with ⟨-, -, z3⟩ | ⟨-, -, z3, -, z6, z7⟩
            · exact Or.inr z3
            · left
              intro e
              rw [← e] at z6
              exact w z6
          have k12 : F2 112 p = F 112 p := by
            rcases hc with ⟨-, -, w3⟩ | ⟨w1, -, w3⟩
            · rw [w3, upd_n q]
            · rw [w3, upd_n (hne.resolve_right w1), upd_n q]
          rw [k12]
          rcases r2 with a | ⟨⟨a1, a2⟩, a3, a4, a5⟩
          · exact Or.inl a
          · have hn := clI (x := F 112 p) (by omega)
            have nn : cl (F 112 p) ≠ np := by show (F 112 p).toNatClampNeg ≠ np; omega
            simp only [if_neg nn]
            exact Or.inr ⟨⟨a1, by omega⟩, a3, a4, a5⟩
      · unfold okV at r3 ⊢
        simp only [if_neg q]
        rw [e11, upd_n q, e5]
        rcases r3 with a | ⟨a1, a2, a3, a4⟩
        · exact Or.inl a
        · exact Or.inr ⟨a1, a2, a3, by rw [hh p hp4 a1]; exact a4⟩
/-- a new block -/
theorem TO.block {nb ni np : Nat} {po pr hp : Nat → Nat} {F F2 : Nat → Nat → Int32} {it by_ : Int32} (h : TO nb ni np po pr hp F) (hb : nb < 1202) (hit : nb = 0 ∨ ((0 ≤ it.toInt ∧ it.toInt < ni) ∧ 0 ≤ by_.toInt ∧ by_.toInt < 600))
    (e0 : F2 100 = upd (F 100) nb it) (e1 : F2 101 = upd (F 101) nb by_) (e2 : F2 102 = upd (F 102) nb 0) (e3 : F2 103 = upd (F 103) nb (-9)) (e4 : F2 104 = upd (F 104) nb (-9)) (e5 : F2 105 = F 105) (e6 : F2 106 = F 106) (e7 : F2 107 = F 107) (e8 : F2 108 = F 108) (e9 : F2 109 = F 109) (e10 : F2 110 = F 110) (e11 : F2 111 = F 111) (e12 : F2 112 = F 112) : TO (nb + 1) ni np po pr hp F2 := by
  obtain ⟨⟨E1, E2, E3⟩, HB, HP, HI, HQ, HR⟩ := h
  refine ⟨⟨by omega, E2, E3⟩, fun c hcn => ?_, fun c h0 hcn => ?_, fun x hx => ?_, fun x hx => ?_, fun p hp2 => ?_⟩
  · unfold okB
    by_cases q : c = nb
    · subst q
      rw [e2, e3, e4, upd_s, upd_s, upd_s]
      exact Or.inl ⟨rfl, rfl, rfl⟩
    · have := HB c (by omega)
      unfold okB at this
      rw [e2, e3, e4, e5, e6, upd_n q, upd_n q, upd_n q]
      exact this
  · unfold okP
    by_cases q : c = nb
    · subst q
      rw [e0, e1, upd_s, upd_s]
      rcases hit with w | w
      · omega
      · exact w
    · have := HP c h0 (by omega)
      unfold okP at this
      rw [e0, e1, upd_n q, upd_n q]
      exact this
  · have := HI x hx
    unfold okI at this ⊢
    obtain ⟨⟨⟨y1, y2⟩, y3⟩, y4⟩ := this
    have hcl := clI y1
    have n1 : cl (F 105 x) ≠ nb := by show (F 105 x).toNatClampNeg ≠ nb; omega
    rw [e5, e6, e7, e2, e4, upd_n n1, upd_n n1]
    exact ⟨⟨⟨y1, by omega⟩, y3⟩, y4⟩
  · have := HQ x hx
    unfold okQ at this ⊢
    rw [e8, e9, e10]
    exact this
  · obtain ⟨r1, r2, r3⟩ := HR p hp2
    refine ⟨r1, ?_, ?_⟩
    · unfold okN at r2 ⊢
      rw [e12, e8, e10]
      exact r2
    · unfold okV at r3 ⊢
      rw [e11, e5]
      rcases r3 with a | ⟨a1, a2, a3, a4⟩
      · exact Or.inl a
      · exact Or.inr ⟨a1, by omega, a3, a4⟩
theorem WW.block {nb ni np : Nat} {po pr hp : Nat → Nat} {F F2 : Nat → Nat → Int32} {it : Int32} (hw : WW F) (h : TO nb ni np po pr hp F) (hit : nb = 0 ∨ (0 ≤ it.toInt ∧ it.toInt < ni)) (e0 : F2 100 = upd (F 100) nb it) (e5 : F2 105 = F 105) : WW F2 := by
  intro c hc
  rw [e0, e5]
  by_cases q : c = nb
  · subst q
    rw [upd_s]
    rcases hit with w | ⟨w1, w2⟩
    · omega
    · right
      have hcl := clI w1
      have h1 := (h.2.2.2.1 (cl it) (by show it.toNatClampNeg < ni; omega)).1.1
      have := h.1
      exact ⟨⟨w1, by omega⟩, h1.1, h1.2⟩
  · rw [upd_n q]; exact hw c hc
