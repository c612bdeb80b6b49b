def TA (f g : Nat → Int32) : Prop := ∀ k, 0 ≤ (f k).toInt ∧ 0 ≤ (g k).toInt ∧ (f k).toInt + (g k).toInt ≤ 600
def TKm (i F : Nat → Nat → Int32) : Prop := (0 ≤ (i 78 19).toInt ∧ (i 78 19).toInt ≤ 600) ∧ TA (F 89) (F 90) ∧ ∀ k : Nat, (k : Int) < (i 78 19).toInt → 1 ≤ (F 90 k).toInt ∧ 0 ≤ (F 92 k).toInt
def HD (i F : Nat → Nat → Int32) : Prop := 0 < (i 78 19).toInt → F 93 0 = 1
def PLI (i : Nat → Nat → Int32) : Prop := (i 78 30).toInt = 0 ∨ (0 ≤ (i 78 31).toInt ∧ (i 78 31).toInt ≤ 600)
def CB (F : Nat → Nat → Int32) : Prop := ∀ j, 0 ≤ (F 97 j).toInt
theorem TA.up {f g : Nat → Int32} {n : Nat} {x m : Int32} (h : TA f g) (hx : 0 ≤ x.toInt ∧ 0 ≤ m.toInt ∧ x.toInt + m.toInt ≤ 600) : TA (upd f n x) (upd g n m) := fun k => by
  by_cases q : k = n
  · rw [q, upd_s, upd_s]; exact hx
  · rw [upd_n q, upd_n q]; exact h k
theorem TKm.add {i F i2 F2 : Nat → Nat → Int32} {x m c t : Int32} (h : TKm i F) (hn : (i 78 19).toInt < 600) (hx : 0 ≤ x.toInt ∧ 1 ≤ m.toInt ∧ x.toInt + m.toInt ≤ 600) (hc : 0 ≤ c.toInt) (ht : t.toInt = (i 78 19).toInt + 1) (e1 : i2 78 19 = t) (e2 : F2 89 = upd (F 89) (i 78 19).toNatClampNeg x) (e3 : F2 90 = upd (F 90) (i 78 19).toNatClampNeg m) (e4 : F2 92 = upd (F 92) (i 78 19).toNatClampNeg c) : TKm i2 F2 := by
  obtain ⟨h1, h2, h3⟩ := h
  have hcl := clI h1.1
  refine ⟨by rw [e1]; omega, by rw [e2, e3]; exact h2.up (by omega), fun k hk => ?_⟩
  rw [e1] at hk
  rw [e3, e4]
  by_cases q : k = (i 78 19).toNatClampNeg
  · rw [q, upd_s, upd_s]; omega
  · rw [upd_n q, upd_n q]; exact h3 k (by omega)
theorem HD.add {i F i2 F2 : Nat → Nat → Int32} {y t : Int32} (h : HD i F) (h0 : 0 ≤ (i 78 19).toInt) (hy : (i 78 19).toInt = 0 → y = 1) (ht : t.toInt = (i 78 19).toInt + 1) (e2 : F2 93 = upd (F 93) (i 78 19).toNatClampNeg y) : HD i2 F2 := by
  intro _
  have hcl := clI h0
  rw [e2]
  by_cases q : (i 78 19).toInt = 0
  · rw [show (i 78 19).toNatClampNeg = 0 by omega, upd_s]; exact hy q
  · rw [upd_n (by omega)]; exact h (by omega)
theorem TKm.ro {A B : List Nat} {i F i2 F2 : Nat → Nat → Int32} {G G2 : Nat → Nat → Int64} (h : TKm i F) (hon : RO A B i F G (i2, F2, G2)) (h1 : ¬ 19 ∈ A ∧ ¬ 89 ∈ B ∧ ¬ 90 ∈ B ∧ ¬ 92 ∈ B) : TKm i2 F2 := by
  have e1 : i2 78 19 = i 78 19 := hon.1 78 19 (Or.inr h1.1)
  have e2 : F2 89 = F 89 := (hon.2 89 h1.2.1).1
  have e3 : F2 90 = F 90 := (hon.2 90 h1.2.2.1).1
  have e4 : F2 92 = F 92 := (hon.2 92 h1.2.2.2).1
  unfold TKm at h ⊢
  rw [e1, e2, e3, e4]
  exact h
theorem HD.ro {A B : List Nat} {i F i2 F2 : Nat → Nat → Int32} {G G2 : Nat → Nat → Int64} (h : HD i F) (hon : RO A B i F G (i2, F2, G2)) (h1 : ¬ 19 ∈ A ∧ ¬ 93 ∈ B) : HD i2 F2 := by
  have e1 : i2 78 19 = i 78 19 := hon.1 78 19 (Or.inr h1.1)
  have e2 : F2 93 = F 93 := (hon.2 93 h1.2).1
  unfold HD at h ⊢
  rw [e1, e2]
  exact h
theorem CB.ro {A B : List Nat} {i F i2 F2 : Nat → Nat → Int32} {G G2 : Nat → Nat → Int64} (h : CB F) (hon : RO A B i F G (i2, F2, G2)) (h1 : ¬ 97 ∈ B) : CB F2 := by
  have e2 : F2 97 = F 97 := (hon.2 97 h1).1
  unfold CB at h ⊢
  rw [e2]
  exact h
theorem PLI.ro {A B : List Nat} {i F i2 F2 : Nat → Nat → Int32} {G G2 : Nat → Nat → Int64} (h : PLI i) (hon : RO A B i F G (i2, F2, G2)) (h1 : ¬ 30 ∈ A ∧ ¬ 31 ∈ A) : PLI i2 := by
  have e1 : i2 78 30 = i 78 30 := hon.1 78 30 (Or.inr h1.1)
  have e2 : i2 78 31 = i 78 31 := hon.1 78 31 (Or.inr h1.2)
  unfold PLI at h ⊢
  rw [e1, e2]
  exact h
def dg (x : Int32) : Int32 := if 48 ≤ x.toInt ∧ x.toInt ≤ 57 then 1 else 0
theorem lt_z (x : Int32) : lt_ x = 0 ∨ lt_ x = 1 := by unfold lt_; split; exact Or.inr rfl; exact Or.inl rfl
theorem dv_col {c t : Int32} (hc : 0 ≤ c.toInt) (hb : c.toInt ≤ 5000) (ht : 0 < t.toInt ∧ t.toInt ≤ 8) : 0 ≤ ((c / t + 1) * t).toInt ∧ ((c / t + 1) * t).toInt ≤ c.toInt + 8 := by
  have hd : (c / t).toInt = c.toInt / t.toInt := by
    rw [Int32.toInt_div, Int.tdiv_eq_ediv_of_nonneg hc]
    have h1 : 0 ≤ c.toInt / t.toInt := Int.ediv_nonneg hc (by omega)
    have h2 : c.toInt / t.toInt ≤ c.toInt := Int.ediv_le_self _ hc
    exact fb_bmod (by omega) (by omega)
  have h1 : 0 ≤ c.toInt / t.toInt := Int.ediv_nonneg hc (by omega)
  have h2 : c.toInt / t.toInt ≤ c.toInt := Int.ediv_le_self _ hc
  have h3 : c.toInt / t.toInt * t.toInt ≤ c.toInt := Int.ediv_mul_le _ (by omega)
  have h4 : 0 ≤ c.toInt / t.toInt * t.toInt := Int.mul_nonneg h1 (by omega)
  have e1 : (c / t + 1).toInt = c.toInt / t.toInt + 1 := by
    rw [fb_addI (by rw [hd]; have : Int32.toInt 1 = 1 := rfl; omega) (by rw [hd]; have : Int32.toInt 1 = 1 := rfl; omega), hd]
    rfl
  have e2 : (c.toInt / t.toInt + 1) * t.toInt = c.toInt / t.toInt * t.toInt + t.toInt := by rw [Int.add_mul, Int.one_mul]
  rw [fb_mulI (by rw [e1, e2]; omega) (by rw [e1, e2]; omega), e1, e2]
  omega
theorem cb_up {F : Nat → Nat → Int32} {n : Nat} {g : Nat → Int32} {v : Int32} (h : CB F) (hv : 0 ≤ v.toInt) : ∀ j, 0 ≤ (va_up (va_up F 96 g) 97 (upd (F 97) n v) 97 j).toInt := fun j => by
  rw [va_up_self]
  unfold upd
  split
  · exact hv
  · exact h j
theorem bh_fin {f : Nat → Int32} {k x y : Int32} {n : Int} (h1 : x.toInt ≤ k.toInt) (hxl : x.toInt < n) (h : (¬ y = 0 → ¬ lt_ (f x.toNatClampNeg) = 0) ∧ (y = 0 → ¬ dg (f x.toNatClampNeg) = 0)) (hc : n ≤ k.toInt ∨ (¬ y = 0 ∧ lt_ (f k.toNatClampNeg) = 0) ∨ (y = 0 ∧ dg (f k.toNatClampNeg) = 0)) : x.toInt + 1 ≤ k.toInt := by
  by_cases q : k = x
  · subst q
    rcases hc with w | ⟨w1, w2⟩ | ⟨w1, w2⟩
    · omega
    · exact absurd w2 (h.1 w1)
    · exact absurd w2 (h.2 w1)
  · have w : ¬ k.toInt = x.toInt := fun w => q (Int32.toInt_inj.mp w)
    omega
theorem nx_fin {f : Nat → Int32} {k x y : Int32} {n : Int} (h1 : x.toInt ≤ k.toInt) (hc : n ≤ k.toInt ∨ f k.toNatClampNeg = y) : x.toInt < n → ¬ f x.toNatClampNeg = y → x.toInt + 1 ≤ k.toInt := by
  intro a c
  by_cases q : k = x
  · subst q
    rcases hc with w | w
    · omega
    · exact absurd w c
  · have w : ¬ k.toInt = x.toInt := fun w => q (Int32.toInt_inj.mp w)
    omega
