def TMm (i F : Nat → Nat → Int32) : Prop := (0 ≤ (i 78 32).toInt ∧ 0 ≤ (i 78 40).toInt ∧ 0 ≤ (i 78 47).toInt) ∧ (∃ po pr hp, TO (cl (i 78 32)) (cl (i 78 40)) (cl (i 78 47)) po pr hp F) ∧ WW F ∧ inR (F 105) 0 1202 ∧ inR (F 95) 0 1202 ∧ (1 ≤ (i 78 32).toInt → (F 100 0).toInt = -9)
theorem TMm.lin {i F : Nat → Nat → Int32} (h : TMm i F) : (0 ≤ (i 78 32).toInt ∧ (i 78 32).toInt ≤ 1202) ∧ (0 ≤ (i 78 40).toInt ∧ (i 78 40).toInt ≤ 1202) ∧ (0 ≤ (i 78 47).toInt ∧ (i 78 47).toInt ≤ 1802) := by
  obtain ⟨⟨a1, a2, a3⟩, ⟨po, pr, hp, hTO⟩, -⟩ := h
  have e := hTO.1
  have c1 := clI a1
  have c2 := clI a2
  have c3 := clI a3
  have d1 : cl (i 78 32) = (i 78 32).toNatClampNeg := rfl
  have d2 : cl (i 78 40) = (i 78 40).toNatClampNeg := rfl
  have d3 : cl (i 78 47) = (i 78 47).toNatClampNeg := rfl
  omega
theorem TMm.q {i F : Nat → Nat → Int32} {x : Int32} (h : TMm i F) (hx : 0 ≤ x.toInt ∧ x.toInt < (i 78 40).toInt) : ((F 108 (cl x)).toInt = 0 ∧ (F 109 (cl x)).toInt = -9 ∧ (F 110 (cl x)).toInt = -9) ∨ ((1 ≤ (F 108 (cl x)).toInt ∧ (F 108 (cl x)).toInt ≤ 1802) ∧ (0 ≤ (F 109 (cl x)).toInt ∧ (F 109 (cl x)).toInt < 1802) ∧ (0 ≤ (F 110 (cl x)).toInt ∧ (F 110 (cl x)).toInt < 1802)) := by
  obtain ⟨⟨a1, a2, a3⟩, ⟨po, pr, hp, hTO⟩, -⟩ := h
  have e := hTO.1
  have c2 := clI a2
  have c3 := clI hx.1
  have := hTO.2.2.2.2.1 (cl x) (by show x.toNatClampNeg < (i 78 40).toNatClampNeg; omega)
  unfold okQ at this
  rcases this with q | ⟨q1, q2, q3, -⟩
  · exact Or.inl q
  · right; omega
theorem TMm.b {i F : Nat → Nat → Int32} {x : Int32} (h : TMm i F) (hx : 0 ≤ x.toInt ∧ x.toInt < (i 78 32).toInt) : ((F 102 (cl x)).toInt = 0 ∧ (F 103 (cl x)).toInt = -9 ∧ (F 104 (cl x)).toInt = -9) ∨ ((1 ≤ (F 102 (cl x)).toInt ∧ (F 102 (cl x)).toInt ≤ 1202) ∧ (0 ≤ (F 103 (cl x)).toInt ∧ (F 103 (cl x)).toInt < (i 78 40).toInt) ∧ (0 ≤ (F 104 (cl x)).toInt ∧ (F 104 (cl x)).toInt < (i 78 40).toInt)) := by
  obtain ⟨⟨a1, a2, a3⟩, ⟨po, pr, hp, hTO⟩, -⟩ := h
  have e := hTO.1
  have c1 := clI a1
  have c2 := clI a2
  have c3 := clI hx.1
  have d2 : cl (i 78 40) = (i 78 40).toNatClampNeg := rfl
  have := hTO.2.1 (cl x) (by show x.toNatClampNeg < (i 78 32).toNatClampNeg; omega)
  unfold okB at this
  rcases this with q | ⟨q1, q2, q3, -⟩
  · exact Or.inl q
  · right; omega
theorem TMm.p {i F : Nat → Nat → Int32} {x : Int32} (h : TMm i F) (hx : 1 ≤ x.toInt ∧ x.toInt < (i 78 32).toInt) : (0 ≤ (F 100 (cl x)).toInt ∧ (F 100 (cl x)).toInt < (i 78 40).toInt) ∧ (0 ≤ (F 101 (cl x)).toInt ∧ (F 101 (cl x)).toInt < 600) := by
  obtain ⟨⟨a1, a2, a3⟩, ⟨po, pr, hp, hTO⟩, -⟩ := h
  have c1 := clI a1
  have c2 := clI a2
  have c3 := clI (x := x) (by omega)
  have d2 : cl (i 78 40) = (i 78 40).toNatClampNeg := rfl
  have := hTO.2.2.1 (cl x) (by show 0 < x.toNatClampNeg; omega) (by show x.toNatClampNeg < (i 78 32).toNatClampNeg; omega)
  unfold okP at this
  omega
theorem TMm.hang {i F i2 F2 : Nat → Nat → Int32} {x y xp xc : Int32} (hT : TMm i F) (hx : 0 ≤ x.toInt ∧ x.toInt < (i 78 40).toInt) (hp1 : (i 78 47).toInt < 1802) (hxp : xp = i 78 47) (hxc : xc.toInt = (F 108 (cl x)).toInt + 1)
    (hy : (0 ≤ y.toInt ∧ y.toInt < 600) ∨ (y.toInt ≤ -101 ∧ -100 - y.toInt < (i 78 32).toInt ∧ (F 105 (cl x)).toInt < -100 - y.toInt ∧ ∀ p : Nat, (p : Int) < (i 78 47).toInt → ¬ F 111 p = y))
    (e11 : F2 111 = upd (F 111) (cl xp) y) (e10 : F2 110 = upd (F 110) (cl x) xp) (e8 : F2 108 = upd (F 108) (cl x) xc)
    (hc : ((F 110 (cl x)).toInt = -9 ∧ F2 109 = upd (F 109) (cl x) xp ∧ F2 112 = upd (F 112) (cl xp) (-9)) ∨ (¬ (F 110 (cl x)).toInt = -9 ∧ F2 109 = F 109 ∧ F2 112 = upd (upd (F 112) (cl xp) (-9)) (cl (F 110 (cl x))) xp))
    (e0 : F2 100 = F 100) (e1 : F2 101 = F 101) (e2 : F2 102 = F 102) (e3 : F2 103 = F 103) (e4 : F2 104 = F 104) (e5 : F2 105 = F 105) (e6 : F2 106 = F 106) (e7 : F2 107 = F 107) (e95 : F2 95 = F 95)
    (i32 : i2 78 32 = i 78 32) (i40 : i2 78 40 = i 78 40) (i47 : (i2 78 47).toInt = (i 78 47).toInt + 1) : TMm i2 F2 := by
  obtain ⟨⟨a1, a2, a3⟩, ⟨po, pr, hq, hTO⟩, hW, hIB, hIO, hZ⟩ := hT
  subst hxp
  have c1 := clI a1
  have c2 := clI a2
  have c3 := clI a3
  have c4 := clI hx.1
  have d1 : cl (i 78 32) = (i 78 32).toNatClampNeg := rfl
  have d2 : cl (i 78 40) = (i 78 40).toNatClampNeg := rfl
  have d3 : cl (i 78 47) = (i 78 47).toNatClampNeg := rfl
  have d4 : cl x = x.toNatClampNeg := rfl
  have e47 : cl (i2 78 47) = cl (i 78 47) + 1 := cle (by omega)
  refine ⟨⟨by rw [i32]; exact a1, by rw [i40]; exact a2, by omega⟩, ?_, ?_, by rw [e5]; exact hIB, by rw [e95]; exact hIO, by rw [i32, e0]; exact hZ⟩
  · rw [i32, i40, e47]
    obtain ⟨po2, pr2, h2⟩ := TO.part (x := cl x) (hp2 := fun c => if 0 ≤ y.toInt then hq c else if c = (-100 - y.toInt).toNat then cl (i 78 47) else hq c) (v := y) (xp := i 78 47) (xc := xc) hTO (by omega) (by omega) (by omega) hxc e11 e10 e8 hc e0 e1 e2 e3 e4 e5 e6 e7 (by
      rcases hy with q | ⟨q1, q2, q3, -⟩
      · exact Or.inl q
      · exact Or.inr ⟨q1, by omega, q3, by show (if 0 ≤ y.toInt then _ else _) = _; rw [if_neg (by omega), if_pos rfl]⟩) (by
      intro p hp hv
      show (if 0 ≤ y.toInt then _ else _) = _
      rcases hy with q | ⟨q1, q2, q3, q4⟩
      · rw [if_pos q.1]
      · rw [if_neg (by omega), if_neg]
        intro e
        exact q4 p (by omega) (Int32.toInt_inj.mp (by omega)))
    exact ⟨po2, pr2, _, h2⟩
  · intro b hb
    rw [e0, e5]
    exact hW b hb
theorem TMm.item {i F i2 F2 : Nat → Nat → Int32} {x xi xc : Int32} (hT : TMm i F) (hx : 0 ≤ x.toInt ∧ x.toInt < (i 78 32).toInt) (hi : (i 78 40).toInt < 1202) (hxi : xi = i 78 40) (hxc : xc.toInt = (F 102 (cl x)).toInt + 1)
    (e5 : F2 105 = upd (F 105) (cl xi) x) (e6 : F2 106 = upd (F 106) (cl xi) (F 102 (cl x))) (e8 : F2 108 = upd (F 108) (cl xi) 0) (e9 : F2 109 = upd (F 109) (cl xi) (-9)) (e10 : F2 110 = upd (F 110) (cl xi) (-9)) (e4 : F2 104 = upd (F 104) (cl x) xi) (e2 : F2 102 = upd (F 102) (cl x) xc)
    (hc : ((F 104 (cl x)).toInt = -9 ∧ F2 103 = upd (F 103) (cl x) xi ∧ F2 107 = upd (F 107) (cl xi) (-9)) ∨ (¬ (F 104 (cl x)).toInt = -9 ∧ F2 103 = F 103 ∧ F2 107 = upd (upd (F 107) (cl xi) (-9)) (cl (F 104 (cl x))) xi))
    (e0 : F2 100 = F 100) (e1 : F2 101 = F 101) (e11 : F2 111 = F 111) (e12 : F2 112 = F 112) (e95 : F2 95 = F 95)
    (i32 : i2 78 32 = i 78 32) (i47 : i2 78 47 = i 78 47) (i40 : (i2 78 40).toInt = (i 78 40).toInt + 1) : TMm i2 F2 := by
  obtain ⟨⟨a1, a2, a3⟩, ⟨po, pr, hq, hTO⟩, hW, hIB, hIO, hZ⟩ := hT
  subst hxi
  have c1 := clI a1
  have c2 := clI a2
  have c4 := clI hx.1
  have hE := hTO.1
  have d1 : cl (i 78 32) = (i 78 32).toNatClampNeg := rfl
  have d2 : cl (i 78 40) = (i 78 40).toNatClampNeg := rfl
  have d4 : cl x = x.toNatClampNeg := rfl
  have e40 : cl (i2 78 40) = cl (i 78 40) + 1 := cle (by omega)
  refine ⟨⟨by rw [i32]; exact a1, by omega, by rw [i47]; exact a3⟩, ?_, ?_, ?_, by rw [e95]; exact hIO, by rw [i32, e0]; exact hZ⟩
  · rw [i32, i47, e40]
    exact ⟨po, pr, hq, TO.item (b := cl x) (xb := x) (xi := i 78 40) (xc := xc) hTO (by omega) (by omega) (by omega) (by omega) hxc e5 e6 e8 e9 e10 e4 e2 hc e0 e1 e11 e12⟩
  · exact WW.item (b := cl x) (xb := x) hW hTO (by omega) (by omega) e5 e0
  · rw [e5]; exact hIB.up (by omega) (by omega)
theorem TMm.block {i F i2 F2 : Nat → Nat → Int32} {it by_ xb : Int32} (hT : TMm i F) (hb : (i 78 32).toInt < 1202) (hit : ((i 78 32).toInt = 0 ∧ it.toInt = -9) ∨ (1 ≤ (i 78 32).toInt ∧ (0 ≤ it.toInt ∧ it.toInt < (i 78 40).toInt) ∧ 0 ≤ by_.toInt ∧ by_.toInt < 600))
    (hxb : xb = i 78 32) (e0 : F2 100 = upd (F 100) (cl xb) it) (e1 : F2 101 = upd (F 101) (cl xb) by_) (e2 : F2 102 = upd (F 102) (cl xb) 0) (e3 : F2 103 = upd (F 103) (cl xb) (-9)) (e4 : F2 104 = upd (F 104) (cl xb) (-9)) (e5 : F2 105 = F 105) (e6 : F2 106 = F 106) (e7 : F2 107 = F 107) (e8 : F2 108 = F 108) (e9 : F2 109 = F 109) (e10 : F2 110 = F 110) (e11 : F2 111 = F 111) (e12 : F2 112 = F 112) (e95 : F2 95 = F 95)
    (i40 : i2 78 40 = i 78 40) (i47 : i2 78 47 = i 78 47) (i32 : (i2 78 32).toInt = (i 78 32).toInt + 1) : TMm i2 F2 := by
  subst hxb
  obtain ⟨⟨a1, a2, a3⟩, ⟨po, pr, hq, hTO⟩, hW, hIB, hIO, hZ⟩ := hT
  have c1 := clI a1
  have c2 := clI a2
  have d1 : cl (i 78 32) = (i 78 32).toNatClampNeg := rfl
  have d2 : cl (i 78 40) = (i 78 40).toNatClampNeg := rfl
  have e32 : cl (i2 78 32) = cl (i 78 32) + 1 := cle (by omega)
  refine ⟨⟨by omega, by rw [i40]; exact a2, by rw [i47]; exact a3⟩, ?_, ?_, by rw [e5]; exact hIB, by rw [e95]; exact hIO, fun _ => ?_⟩
  · rw [i40, i47, e32]
    exact ⟨po, pr, hq, TO.block (it := it) (by_ := by_) hTO (by omega) (by omega) e0 e1 e2 e3 e4 e5 e6 e7 e8 e9 e10 e11 e12⟩
  · exact WW.block (it := it) hW hTO (by omega) e0 e5
  · rw [e0]
    by_cases q : (i 78 32).toInt = 0
    · rw [show cl (i 78 32) = 0 by omega, upd_s]; omega
    · rw [upd_n (by omega)]; exact hZ (by omega)
theorem TMm.fresh {i F : Nat → Nat → Int32} {y : Int32} (hT : TMm i F) (hy : y.toInt = -100 - (i 78 32).toInt) : ∀ p : Nat, (p : Int) < (i 78 47).toInt → ¬ F 111 p = y := by
  intro p hp e
  obtain ⟨⟨a1, a2, a3⟩, ⟨po, pr, hq, hTO⟩, -⟩ := hT
  have c1 := clI a1
  have c3 := clI a3
  have d1 : cl (i 78 32) = (i 78 32).toNatClampNeg := rfl
  have d3 : cl (i 78 47) = (i 78 47).toNatClampNeg := rfl
  have h := (hTO.2.2.2.2.2 p (by omega)).2.2
  unfold okV at h
  rw [e] at h
  omega
theorem TMm.ow {i F : Nat → Nat → Int32} {x : Int32} (hT : TMm i F) (hx : 0 ≤ x.toInt ∧ x.toInt < (i 78 40).toInt) : 0 ≤ (F 105 (cl x)).toInt ∧ (F 105 (cl x)).toInt < (i 78 32).toInt := by
  obtain ⟨⟨a1, a2, a3⟩, ⟨po, pr, hq, hTO⟩, -⟩ := hT
  have c1 := clI a1
  have c2 := clI a2
  have c4 := clI hx.1
  have d1 : cl (i 78 32) = (i 78 32).toNatClampNeg := rfl
  have h := (hTO.2.2.2.1 (cl x) (by show x.toNatClampNeg < (i 78 40).toNatClampNeg; omega)).1.1
  omega
theorem TMm.io {i F : Nat → Nat → Int32} {n : Nat} {v : Int32} (h : TMm i F) (hv : 0 ≤ v.toInt ∧ v.toInt < 1202) : TMm i (va_up F 95 (upd (F 95) n v)) := by
  obtain ⟨a, ⟨po, pr, hq, hTO⟩, hW, hIB, hIO, hZ⟩ := h
  exact ⟨a, ⟨po, pr, hq, hTO⟩, hW, hIB, hIO.up hv.1 hv.2, hZ⟩
def tmC : List Nat := [95, 100, 101, 102, 103, 104, 105, 106, 107, 108, 109, 110, 111, 112]
theorem TMm.ro {A B : List Nat} {i F i2 F2 : Nat → Nat → Int32} {G G2 : Nat → Nat → Int64} (h : TMm i F) (hon : RO A B i F G (i2, F2, G2)) (h1 : ¬ 32 ∈ A ∧ ¬ 40 ∈ A ∧ ¬ 47 ∈ A) (h2 : ∀ x ∈ tmC, ¬ x ∈ B) : TMm i2 F2 := by
  have e32 : i2 78 32 = i 78 32 := hon.1 78 32 (Or.inr h1.1)
  have e40 : i2 78 40 = i 78 40 := hon.1 78 40 (Or.inr h1.2.1)
  have e47 : i2 78 47 = i 78 47 := hon.1 78 47 (Or.inr h1.2.2)
  have f : ∀ k, k ∈ tmC → F2 k = F k := fun k hk => (hon.2 k (h2 k hk)).1
  have g95 := f 95 (by decide)
  have g100 := f 100 (by decide)
  have g101 := f 101 (by decide)
  have g102 := f 102 (by decide)
  have g103 := f 103 (by decide)
  have g104 := f 104 (by decide)
  have g105 := f 105 (by decide)
  have g106 := f 106 (by decide)
  have g107 := f 107 (by decide)
  have g108 := f 108 (by decide)
  have g109 := f 109 (by decide)
  have g110 := f 110 (by decide)
  have g111 := f 111 (by decide)
  have g112 := f 112 (by decide)
  unfold TMm TO WW okB okP okI okQ okN okV at h ⊢
  rw [e32, e40, e47, g95, g100, g101, g102, g103, g104, g105, g106, g107, g108, g109, g110, g111, g112]
  exact h
/-- the open blocks -/
def PMm (k : Int) (i F : Nat → Nat → Int32) : Prop := (1 ≤ (i 78 51).toInt ∧ (i 78 51).toInt ≤ (i 78 32).toInt) ∧ (∀ l : Nat, (l : Int) < (i 78 51).toInt → (0 ≤ (F 113 l).toInt ∧ (F 113 l).toInt < (i 78 32).toInt) ∧ ((0 < l ∨ 0 < k) → 1 ≤ (F 102 (cl (F 113 l))).toInt)) ∧ F 113 0 = 0 ∧ F 98 0 = 0 ∧ F 99 0 = 0
theorem PMm.ro {A B : List Nat} {k : Int} {i F i2 F2 : Nat → Nat → Int32} {G G2 : Nat → Nat → Int64} (h : PMm k i F) (hon : RO A B i F G (i2, F2, G2)) (h1 : ¬ 32 ∈ A ∧ ¬ 51 ∈ A) (h2 : ∀ x ∈ ([98, 99, 102, 113] : List Nat), ¬ x ∈ B) : PMm k i2 F2 := by
  have e32 : i2 78 32 = i 78 32 := hon.1 78 32 (Or.inr h1.1)
  have e51 : i2 78 51 = i 78 51 := hon.1 78 51 (Or.inr h1.2)
  have g98 : F2 98 = F 98 := (hon.2 98 (h2 98 (by decide))).1
  have g99 : F2 99 = F 99 := (hon.2 99 (h2 99 (by decide))).1
  have g102 : F2 102 = F 102 := (hon.2 102 (h2 102 (by decide))).1
  have g113 : F2 113 = F 113 := (hon.2 113 (h2 113 (by decide))).1
  unfold PMm at h ⊢
  rw [e32, e51, g98, g99, g102, g113]
  exact h
theorem PMm.top {k : Int} {i F : Nat → Nat → Int32} {x : Int32} (h : PMm k i F) (hx : 1 ≤ x.toInt ∧ x.toInt ≤ (i 78 51).toInt) : PMm k (up2 i 78 51 x) F := ⟨⟨hx.1, by show x.toInt ≤ (i 78 32).toInt; have := h.1; omega⟩, fun l hl => h.2.1 l (by have hl : (l : Int) < x.toInt := hl; omega), h.2.2⟩
/-- a block was made, put on the pile, and given an item -/
theorem PMm.push {k : Int} {i F i2 F2 : Nat → Nat → Int32} {t b : Int32} (h : PMm k i F) (h32 : (i2 78 32).toInt = (i 78 32).toInt + 1) (h51 : i2 78 51 = t) (ht : t.toInt = (i 78 51).toInt + 1) (hb : b = i 78 32) (e113 : F2 113 = upd (F 113) (cl (i 78 51)) b) (e98 : F2 98 0 = F 98 0) (e99 : F2 99 0 = F 99 0) (hm : ∀ c : Nat, (c : Int) < (i 78 32).toInt → (F 102 c).toInt ≤ (F2 102 c).toInt) (h1 : 1 ≤ (F2 102 (cl b)).toInt) : PMm k i2 F2 := by
  obtain ⟨⟨a1, a2⟩, hl, z1, z2, z3⟩ := h
  have c1 := clI (x := i 78 51) (by omega)
  have d1 : cl (i 78 51) = (i 78 51).toNatClampNeg := rfl
  refine ⟨⟨by rw [h51]; omega, by rw [h51]; omega⟩, fun l hl2 => ?_, ?_, by rw [e98]; exact z2, by rw [e99]; exact z3⟩
  · rw [h51] at hl2
    rw [e113]
    by_cases q : l = cl (i 78 51)
    · rw [q, upd_s]
      exact ⟨by rw [hb]; omega, fun _ => h1⟩
    · rw [upd_n q]
      have := hl l (by omega)
      refine ⟨by omega, fun w => ?_⟩
      have w2 := this.2 w
      have c2 := clI this.1.1
      have := hm (cl (F 113 l)) (by show ((F 113 l).toNatClampNeg : Int) < _; omega)
      omega
  · rw [e113, upd_n (by omega)]; exact z1
theorem PMm.grow {k k2 : Int} {i F i2 F2 : Nat → Nat → Int32} (h : PMm k i F) (h32 : (i 78 32).toInt ≤ (i2 78 32).toInt) (h51 : i2 78 51 = i 78 51) (e113 : F2 113 = F 113) (e98 : F2 98 0 = F 98 0) (e99 : F2 99 0 = F 99 0) (hm : ∀ c : Nat, (c : Int) < (i 78 32).toInt → (F 102 c).toInt ≤ (F2 102 c).toInt) (hk : 0 < k2 → 0 < k ∨ 1 ≤ (F2 102 0).toInt) : PMm k2 i2 F2 := by
  obtain ⟨⟨a1, a2⟩, hl, z1, z2, z3⟩ := h
  refine ⟨⟨by rw [h51]; exact a1, by rw [h51]; omega⟩, fun l hl2 => ?_, by rw [e113]; exact z1, by rw [e98]; exact z2, by rw [e99]; exact z3⟩
  rw [h51] at hl2
  rw [e113]
  have := hl l hl2
  refine ⟨by omega, fun w => ?_⟩
  have c2 := clI this.1.1
  have hm2 := hm (cl (F 113 l)) (by show ((F 113 l).toNatClampNeg : Int) < _; omega)
  rcases w with w | w
  · have := this.2 (Or.inl w); omega
  · rcases hk w with q | q
    · have := this.2 (Or.inr q); omega
    · by_cases l0 : l = 0
      · subst l0
        rw [z1]
        exact q
      · have := this.2 (Or.inl (by omega)); omega
theorem TMm.qt {i F : Nat → Nat → Int32} {x : Int32} (h : TMm i F) (hx : 0 ≤ x.toInt ∧ x.toInt < (i 78 40).toInt) : ((F 108 (x.toNatClampNeg)).toInt = 0 ∧ (F 109 (x.toNatClampNeg)).toInt = -9 ∧ (F 110 (x.toNatClampNeg)).toInt = -9) ∨ ((1 ≤ (F 108 (x.toNatClampNeg)).toInt ∧ (F 108 (x.toNatClampNeg)).toInt ≤ 1802) ∧ (0 ≤ (F 109 (x.toNatClampNeg)).toInt ∧ (F 109 (x.toNatClampNeg)).toInt < 1802) ∧ (0 ≤ (F 110 (x.toNatClampNeg)).toInt ∧ (F 110 (x.toNatClampNeg)).toInt < 1802)) := TMm.q h hx
theorem TMm.bt {i F : Nat → Nat → Int32} {x : Int32} (h : TMm i F) (hx : 0 ≤ x.toInt ∧ x.toInt < (i 78 32).toInt) : ((F 102 (x.toNatClampNeg)).toInt = 0 ∧ (F 103 (x.toNatClampNeg)).toInt = -9 ∧ (F 104 (x.toNatClampNeg)).toInt = -9) ∨ ((1 ≤ (F 102 (x.toNatClampNeg)).toInt ∧ (F 102 (x.toNatClampNeg)).toInt ≤ 1202) ∧ (0 ≤ (F 103 (x.toNatClampNeg)).toInt ∧ (F 103 (x.toNatClampNeg)).toInt < (i 78 40).toInt) ∧ (0 ≤ (F 104 (x.toNatClampNeg)).toInt ∧ (F 104 (x.toNatClampNeg)).toInt < (i 78 40).toInt)) := TMm.b h hx
theorem TMm.pt {i F : Nat → Nat → Int32} {x : Int32} (h : TMm i F) (hx : 1 ≤ x.toInt ∧ x.toInt < (i 78 32).toInt) : (0 ≤ (F 100 (x.toNatClampNeg)).toInt ∧ (F 100 (x.toNatClampNeg)).toInt < (i 78 40).toInt) ∧ (0 ≤ (F 101 (x.toNatClampNeg)).toInt ∧ (F 101 (x.toNatClampNeg)).toInt < 600) := TMm.p h hx
theorem TMm.owt {i F : Nat → Nat → Int32} {x : Int32} (hT : TMm i F) (hx : 0 ≤ x.toInt ∧ x.toInt < (i 78 40).toInt) : 0 ≤ (F 105 (x.toNatClampNeg)).toInt ∧ (F 105 (x.toNatClampNeg)).toInt < (i 78 32).toInt := TMm.ow hT hx
def BR (i : Nat → Nat → Int32) : Prop := (0 ≤ (i 78 0).toInt ∧ (i 78 0).toInt ≤ 8) ∧ (0 ≤ (i 78 3).toInt ∧ (i 78 3).toInt ≤ 4) ∧ (0 ≤ (i 78 6).toInt ∧ (i 78 6).toInt ≤ 4) ∧ (0 ≤ (i 78 8).toInt ∧ (i 78 8).toInt ≤ 4) ∧ (0 ≤ (i 78 10).toInt ∧ (i 78 10).toInt ≤ 8)
theorem BR.ro {A B : List Nat} {i F i2 F2 : Nat → Nat → Int32} {G G2 : Nat → Nat → Int64} (h : BR i) (hon : RO A B i F G (i2, F2, G2)) (h1 : ∀ x ∈ ([0, 3, 6, 8, 10] : List Nat), ¬ x ∈ A) : BR i2 := by
  have e0 : i2 78 0 = i 78 0 := hon.1 78 0 (Or.inr (h1 0 (by decide)))
  have e3 : i2 78 3 = i 78 3 := hon.1 78 3 (Or.inr (h1 3 (by decide)))
  have e6 : i2 78 6 = i 78 6 := hon.1 78 6 (Or.inr (h1 6 (by decide)))
  have e8 : i2 78 8 = i 78 8 := hon.1 78 8 (Or.inr (h1 8 (by decide)))
  have e10 : i2 78 10 = i 78 10 := hon.1 78 10 (Or.inr (h1 10 (by decide)))
  unfold BR at h ⊢
  rw [e0, e3, e6, e8, e10]
  exact h
theorem PMm.tp {k : Int} {i F : Nat → Nat → Int32} {x : Int32} (h : PMm k i F) (hx : x.toInt = (i 78 51).toInt - 1) : ((0 ≤ (F 113 x.toNatClampNeg).toInt ∧ (F 113 x.toNatClampNeg).toInt < (i 78 32).toInt) ∧ ((1 < (i 78 51).toInt ∨ 0 < k) → 1 ≤ (F 102 (F 113 x.toNatClampNeg).toNatClampNeg).toInt)) ∧ ((i 78 51).toInt = 1 → F 113 x.toNatClampNeg = 0) := by
  have a := h.1
  have c := clI (x := x) (by omega)
  have hl := h.2.1 x.toNatClampNeg (by omega)
  refine ⟨⟨hl.1, fun q => hl.2 (by rcases q with q | q; exact Or.inl (by omega); exact Or.inr q)⟩, fun q => ?_⟩
  rw [show x.toNatClampNeg = 0 by omega]
  exact h.2.2.1
theorem PMm.lt {k : Int} {i F : Nat → Nat → Int32} {x : Int32} (h : PMm k i F) (hx : 0 ≤ x.toInt ∧ x.toInt < (i 78 51).toInt) : (0 ≤ (F 113 x.toNatClampNeg).toInt ∧ (F 113 x.toNatClampNeg).toInt < (i 78 32).toInt) ∧ (x.toInt = 0 → F 113 x.toNatClampNeg = 0) := by
  have c := clI (x := x) hx.1
  refine ⟨(h.2.1 x.toNatClampNeg (by omega)).1, fun q => ?_⟩
  rw [show x.toNatClampNeg = 0 by omega]
  exact h.2.2.1
/-- what begin does to the pile -/
theorem PMm.bg {k : Int} {i F i1 F1 i2 F2 : Nat → Nat → Int32} {t b x y : Int32} (h : PMm k i F) (hb1 : 1 ≤ (i 78 32).toInt) (h32 : (i1 78 32).toInt = (i 78 32).toInt + 1) (hb : b = i 78 32) (e98 : F1 98 = upd (F 98) (i 78 32).toNatClampNeg x) (e99 : F1 99 = upd (F 99) (i 78 32).toNatClampNeg y) (e102 : F1 102 = upd (F 102) (i 78 32).toNatClampNeg 0) (e113 : F1 113 = F 113) (e51 : i1 78 51 = i 78 51) (ht : t.toInt = (i 78 51).toInt + 1)
    (f32 : i2 78 32 = i1 78 32) (f51 : i2 78 51 = t) (f113 : F2 113 = upd (F1 113) (i1 78 51).toNatClampNeg b) (f98 : F2 98 = F1 98) (f99 : F2 99 = F1 99) (hm : ∀ c, (F1 102 c).toInt ≤ (F2 102 c).toInt) (h1 : 1 ≤ (F2 102 (cl b)).toInt) : PMm k i2 F2 := by
  refine PMm.push (t := t) (b := b) h (by rw [f32]; exact h32) f51 ht hb (by rw [f113, e113, e51]) (by rw [f98, e98, upd0 hb1]) (by rw [f99, e99, upd0 hb1]) (fun c hc => ?_) h1
  have := hm c
  have cc := clI (x := i 78 32) (by omega)
  rw [e102, upd_n (by omega)] at this
  exact this
/-- a block was made: the pile stays -/
theorem PMm.nb {k : Int} {i F i1 F1 : Nat → Nat → Int32} {x y : Int32} (h : PMm k i F) (hb1 : 1 ≤ (i 78 32).toInt) (h32 : (i1 78 32).toInt = (i 78 32).toInt + 1) (e98 : F1 98 = upd (F 98) (i 78 32).toNatClampNeg x) (e99 : F1 99 = upd (F 99) (i 78 32).toNatClampNeg y) (e102 : F1 102 = upd (F 102) (i 78 32).toNatClampNeg 0) (e113 : F1 113 = F 113) (e51 : i1 78 51 = i 78 51) : PMm k i1 F1 := by
  refine PMm.grow h (by omega) e51 e113 (by rw [e98, upd0 hb1]) (by rw [e99, upd0 hb1]) (fun c hc => ?_) (fun q => Or.inl q)
  have cc := clI (x := i 78 32) (by omega)
  rw [e102, upd_n (by omega)]
  exact Int.le_refl _
theorem PMm.one {k k2 : Int} {i F : Nat → Nat → Int32} (h : PMm k i F) (hk : 0 < k) : PMm k2 i F := ⟨h.1, fun l hl => ⟨(h.2.1 l hl).1, fun _ => (h.2.1 l hl).2 (Or.inr hk)⟩, h.2.2⟩
def WA (F : Nat → Nat → Int32) : Prop := WW F ∧ inR (F 105) 0 1202 ∧ inR (F 95) 0 1202
theorem TMm.wa {i F : Nat → Nat → Int32} (h : TMm i F) : WA F := ⟨h.2.2.1, h.2.2.2.1, h.2.2.2.2.1⟩
theorem TMm.zero {i F : Nat → Nat → Int32} (h : WA F) (h1 : i 78 32 = 0) (h2 : i 78 40 = 0) (h3 : i 78 47 = 0) : TMm i F := by
  refine ⟨⟨by rw [h1]; decide, by rw [h2]; decide, by rw [h3]; decide⟩, ⟨fun _ => 0, fun _ => 0, fun _ => 0, ?_⟩, h.1, h.2.1, h.2.2, fun q => absurd q (by rw [h1]; decide)⟩
  rw [h1, h2, h3]
  exact ⟨⟨by decide, by decide, by decide⟩, fun b hb => absurd hb (Nat.not_lt_zero b), fun b _ hb => absurd hb (Nat.not_lt_zero b), fun b hb => absurd hb (Nat.not_lt_zero b), fun b hb => absurd hb (Nat.not_lt_zero b), fun b hb => absurd hb (Nat.not_lt_zero b)⟩
theorem WA.ro {A B : List Nat} {i F i2 F2 : Nat → Nat → Int32} {G G2 : Nat → Nat → Int64} (h : WA F) (hon : RO A B i F G (i2, F2, G2)) (h2 : ¬ 95 ∈ B ∧ ¬ 100 ∈ B ∧ ¬ 105 ∈ B) : WA F2 := by
  have g95 : F2 95 = F 95 := (hon.2 95 h2.1).1
  have g100 : F2 100 = F 100 := (hon.2 100 h2.2.1).1
  have g105 : F2 105 = F 105 := (hon.2 105 h2.2.2).1
  unfold WA WW at h ⊢
  rw [g95, g100, g105]
  exact h
theorem PMm.start {i F : Nat → Nat → Int32} (h1 : i 78 51 = 1) (h2 : (i 78 32).toInt = 1) (h3 : F 113 0 = 0) (h4 : F 98 0 = 0) (h5 : F 99 0 = 0) : PMm 0 i F := by
  refine ⟨⟨by rw [h1]; decide, by rw [h1, h2]; decide⟩, fun l hl => ?_, h3, h4, h5⟩
  rw [h1] at hl
  have e : Int32.toInt 1 = 1 := rfl
  have l0 : l = 0 := by omega
  subst l0
  rw [h3]
  have e0 : Int32.toInt 0 = 0 := rfl
  exact ⟨⟨by omega, by omega⟩, fun q => by omega⟩
theorem PMm.zk {k : Int} {i F : Nat → Nat → Int32} (h : PMm k i F) : PMm 0 i F := ⟨h.1, fun l hl => ⟨(h.2.1 l hl).1, fun q => (h.2.1 l hl).2 (q.elim Or.inl (fun w => absurd w (by decide)))⟩, h.2.2⟩
