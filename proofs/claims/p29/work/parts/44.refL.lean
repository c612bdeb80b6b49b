/-! the reference: frames (fields of cell 78, arrays), bytes and lines -/
def RO (A B : List Nat) (i F : Nat → Nat → Int32) (G : Nat → Nat → Int64) (u : XS) : Prop := (∀ k j, (k ≠ 78 ∨ ¬ j ∈ A) → u.1 k j = i k j) ∧ ∀ k, ¬ k ∈ B → u.2.1 k = F k ∧ u.2.2 k = G k
theorem RO.rf {A B : List Nat} {i F : Nat → Nat → Int32} {G : Nat → Nat → Int64} : RO A B i F G (i, F, G) := ⟨fun _ _ _ => rfl, fun _ _ => ⟨rfl, rfl⟩⟩
theorem RO.tr {A B A2 B2 : List Nat} {i F i2 F2 : Nat → Nat → Int32} {G G2 : Nat → Nat → Int64} {u : XS} (h1 : RO A B i F G (i2, F2, G2)) (h2 : RO A2 B2 i2 F2 G2 u) (hs : ∀ x ∈ A2, x ∈ A) (ht : ∀ x ∈ B2, x ∈ B) : RO A B i F G u := by
  refine ⟨fun k j h => ?_, fun k h => ?_⟩
  · exact (h2.1 k j (h.imp id (fun q w => q (hs j w)))).trans (h1.1 k j h)
  · have q1 := h2.2 k (fun w => h (ht k w))
    have q2 := h1.2 k h
    exact ⟨q1.1.trans q2.1, q1.2.trans q2.2⟩
theorem RO.i {A B : List Nat} {j : Nat} {x : Int32} {i F i2 F2 : Nat → Nat → Int32} {G G2 : Nat → Nat → Int64} (h : RO A B i F G (i2, F2, G2)) (hj : j ∈ A) : RO A B i F G (up2 i2 78 j x, F2, G2) := by
  refine ⟨fun k q hq => ?_, h.2⟩
  show up2 i2 78 j x k q = _
  rcases hq with w | w
  · rw [up2_k w]; exact h.1 k q (Or.inl w)
  · rw [up2_j (fun e => w (by rw [e]; exact hj))]; exact h.1 k q (Or.inr w)
theorem RO.f {A B : List Nat} {k : Nat} {g : Nat → Int32} {i F i2 F2 : Nat → Nat → Int32} {G G2 : Nat → Nat → Int64} (h : RO A B i F G (i2, F2, G2)) (hk : k ∈ B) : RO A B i F G (i2, va_up F2 k g, G2) := by
  refine ⟨h.1, fun q hq => ?_⟩
  refine ⟨?_, (h.2 q hq).2⟩
  show va_up F2 k g q = _
  rw [va_up_ne _ _ (fun e => hq (by rw [e]; exact hk))]
  exact (h.2 q hq).1
theorem RO.g {A B : List Nat} {k : Nat} {g : Nat → Int64} {i F i2 F2 : Nat → Nat → Int32} {G G2 : Nat → Nat → Int64} (h : RO A B i F G (i2, F2, G2)) (hk : k ∈ B) : RO A B i F G (i2, F2, va_up G2 k g) := by
  refine ⟨h.1, fun q hq => ?_⟩
  refine ⟨(h.2 q hq).1, ?_⟩
  show va_up G2 k g q = _
  rw [va_up_ne _ _ (fun e => hq (by rw [e]; exact hk))]
  exact (h.2 q hq).2
/-- a byte, as an int -/
def BT (f : Nat → Int32) : Prop := ∀ j, (f j).toInt8.toInt32 = f j
theorem bt8 (v : Int32) : v.toInt8.toInt32.toInt8.toInt32 = v.toInt8.toInt32 := by rw [Int8.toInt8_toInt32]
theorem BT.up {f : Nat → Int32} {n : Nat} {v : Int32} (h : BT f) : BT (upd f n v.toInt8.toInt32) := fun j => by
  unfold upd
  split
  · exact bt8 v
  · exact h j
/-- how many line ends stand among the first n bytes -/
def c10 (f : Nat → Int32) : Nat → Nat
  | 0 => 0
  | n + 1 => c10 f n + (if f n = 10 then 1 else 0)
theorem c10_le (f : Nat → Int32) (n : Nat) : c10 f n ≤ n := by
  induction n with
  | zero => exact Nat.le_refl 0
  | succ n ih => unfold c10; split <;> omega
theorem c10_mono (f : Nat → Int32) {a b : Nat} (h : a ≤ b) : c10 f a ≤ c10 f b := by
  induction b with
  | zero => have : a = 0 := by omega
            subst this; exact Nat.le_refl _
  | succ b ih =>
    rcases Nat.lt_or_eq_of_le h with q | q
    · have := ih (by omega)
      have e : c10 f (b + 1) = c10 f b + (if f b = 10 then 1 else 0) := rfl
      rw [e]; omega
    · subst q; exact Nat.le_refl _
theorem c10_agr {f g : Nat → Int32} {n : Nat} (h : ∀ j, j < n → f j = g j) : c10 f n = c10 g n := by
  induction n with
  | zero => rfl
  | succ n ih => unfold c10; rw [ih (fun j hj => h j (by omega)), h n (by omega)]
theorem c10_1 {f : Nat → Int32} {n : Nat} (h : f n = 10) : c10 f (n + 1) = c10 f n + 1 := by
  show c10 f n + (if f n = 10 then 1 else 0) = _
  rw [if_pos h]
theorem c10_0 {f : Nat → Int32} {n : Nat} (h : ¬ f n = 10) : c10 f (n + 1) = c10 f n := by
  show c10 f n + (if f n = 10 then 1 else 0) = _
  rw [if_neg h]; rfl
/-- line x begins at r -/
def LA (f : Nat → Int32) (x : Int) (r : Nat) : Prop := (x ≤ 0 ∧ r = 0) ∨ (0 < x ∧ ∃ q, r = q + 1 ∧ f q = 10 ∧ (c10 f r : Int) = x)
theorem LA.un {f g : Nat → Int32} {x : Int} {r s : Nat} (h : LA f x r) (h2 : LA g x s) (ha : ∀ j, j < r → f j = g j) : s = r := by
  rcases h with ⟨q1, q2⟩ | ⟨q1, a, e, f1, c1⟩
  · rcases h2 with ⟨w1, w2⟩ | ⟨w1, -⟩
    · rw [q2, w2]
    · omega
  · rcases h2 with ⟨w1, -⟩ | ⟨w1, d, e2, f2, c2⟩
    · omega
    · have k1 : c10 g r = c10 f r := (c10_agr ha).symm
      have k2 : g a = 10 := by rw [← ha a (by omega)]; exact f1
      subst e; subst e2
      rw [c10_1 f2] at c2
      rw [← k1, c10_1 k2] at c1
      rcases Nat.lt_trichotomy d a with q | q | q
      · have := c10_mono g (show d + 1 ≤ a by omega)
        rw [c10_1 f2] at this
        omega
      · rw [q]
      · have := c10_mono g (show a + 1 ≤ d by omega)
        rw [c10_1 k2] at this
        omega
theorem LA.cg {f g : Nat → Int32} {x : Int} {r : Nat} (h : LA f x r) (ha : ∀ j, j < r → f j = g j) : LA g x r := by
  rcases h with q | ⟨q1, a, e, f1, c1⟩
  · exact Or.inl q
  · exact Or.inr ⟨q1, a, e, by rw [← ha a (by omega)]; exact f1, by rw [← c10_agr ha]; exact c1⟩
/-- the text, shifted by y at place r -/
def mvf (f : Nat → Int32) (r : Nat) (y sz : Int) (j : Nat) : Int32 :=
  if (j : Int) < r then f j else if 0 < y ∧ (j : Int) < r + y then 32 else if (j : Int) < sz + y then f ((j : Int) - y).toNat else f j
theorem mvf_lo {f : Nat → Int32} {r : Nat} {y sz : Int} {j : Nat} (h : j < r) : mvf f r y sz j = f j := by unfold mvf; rw [if_pos (by omega)]
theorem mvf_back {f : Nat → Int32} {r : Nat} {y sz : Int} (h1 : (r : Int) ≤ sz) (h2 : y < 0 → ((r : Int) - y ≤ sz ∧ ∀ j : Nat, (j : Int) < - y → f (r + j) = 32)) : ∀ j : Nat, (j : Int) < sz → mvf (mvf f r y sz) r (-y) (sz + y) j = f j := by
  intro j hj
  by_cases q1 : j < r
  · rw [mvf_lo q1, mvf_lo q1]
  · by_cases hy : 0 < y
    · unfold mvf
      rw [if_neg (by omega), if_neg (by omega), if_pos (by omega), if_neg (by omega), if_neg (by omega), if_pos (by omega)]
      congr 1
      omega
    · by_cases h0 : y = 0
      · subst h0
        unfold mvf
        rw [if_neg (by omega), if_neg (by omega), if_pos (by omega), if_neg (by omega), if_neg (by omega), if_pos (by omega)]
        congr 1
      · have h3 := h2 (by omega)
        by_cases q2 : (j : Int) < r - y
        · unfold mvf
          rw [if_neg (by omega), if_pos (by omega)]
          have := h3.2 (j - r) (by omega)
          rw [show r + (j - r) = j by omega] at this
          exact this.symm
        · unfold mvf
          rw [if_neg (by omega), if_neg (by omega), if_pos (by omega), if_neg (by omega), if_neg (by omega), if_pos (by omega)]
          congr 1
          omega
theorem LA.eq {f : Nat → Int32} {x : Int} {r0 r : Int32} (h : LA f x r0.toNatClampNeg) (h2 : LA f x r.toNatClampNeg) (h0 : 0 ≤ r0.toInt) (h1 : 0 ≤ r.toInt) : r = r0 := by
  have := LA.un h h2 (fun _ _ => rfl)
  have e0 := clI h0
  have e1 := clI h1
  exact Int32.toInt_inj.mp (by omega)
theorem bl9 {f : Nat → Int32} {q9 k ix k2 : Int32} (hq : 0 ≤ q9.toInt) (h5 : ∀ j : Nat, (j : Int) < k.toInt → f (q9.toNatClampNeg + j) = 32) (hi : ix.toInt = q9.toInt + k.toInt) (hk : 0 ≤ k.toInt) (h2 : k2.toInt = k.toInt + 1) (he : f ix.toNatClampNeg = 32) : ∀ j : Nat, (j : Int) < k2.toInt → f (q9.toNatClampNeg + j) = 32 := by
  intro j hj
  have e0 := clI hq
  have e1 := clI (x := ix) (by omega)
  by_cases q : (j : Int) < k.toInt
  · exact h5 j q
  · rw [show q9.toNatClampNeg + j = ix.toNatClampNeg by omega]; exact he
theorem mv_r {f g : Nat → Int32} {k kx k2 : Int32} {y sz : Int} (h9 : ∀ j : Nat, g j = if k.toInt + y < (j : Int) ∧ (j : Int) < sz + y then f ((j : Int) - y).toNat else f j) (hk : 0 ≤ k.toInt) (hx : kx.toInt = k.toInt + y) (h2 : k2.toInt = k.toInt - 1) (hs : k.toInt < sz) (hbt : BT f) (hy : 0 < y) : ∀ j : Nat, upd g kx.toNatClampNeg ((g k.toNatClampNeg).toInt8.toInt32) j = if k2.toInt + y < (j : Int) ∧ (j : Int) < sz + y then f ((j : Int) - y).toNat else f j := by
  intro j
  have e0 := clI hk
  have e1 := clI (x := kx) (by omega)
  have hg : g k.toNatClampNeg = f k.toNatClampNeg := by rw [h9]; rw [if_neg (by omega)]
  by_cases q : j = kx.toNatClampNeg
  · rw [q, upd_s, hg, hbt, if_pos (by omega)]
    congr 1
    omega
  · rw [upd_n q, h9 j]
    by_cases w : k.toInt + y < (j : Int) ∧ (j : Int) < sz + y
    · rw [if_pos w, if_pos (by omega)]
    · rw [if_neg w, if_neg (by omega)]
theorem mv_x {f g : Nat → Int32} {q k y sz z : Int} (h9 : ∀ j : Nat, g j = if k + y < (j : Int) ∧ (j : Int) < sz + y then f ((j : Int) - y).toNat else f j) (hk : k = q - 1) (hz : z = 0) : ∀ j : Nat, g j = if q ≤ (j : Int) ∧ (j : Int) < q + z then 32 else if q + y ≤ (j : Int) ∧ (j : Int) < sz + y then f ((j : Int) - y).toNat else f j := by
  intro j
  rw [h9 j]
  rw [if_neg (show ¬ (q ≤ (j : Int) ∧ (j : Int) < q + z) by omega)]
  by_cases w : k + y < (j : Int) ∧ (j : Int) < sz + y
  · rw [if_pos w, if_pos (by omega)]
  · rw [if_neg w, if_neg (by omega)]
theorem mv_b {f g : Nat → Int32} {q9 k kx k2 : Int32} {y sz : Int} (h8 : ∀ j : Nat, g j = if q9.toInt ≤ (j : Int) ∧ (j : Int) < q9.toInt + k.toInt then 32 else if q9.toInt + y ≤ (j : Int) ∧ (j : Int) < sz + y then f ((j : Int) - y).toNat else f j) (hq : 0 ≤ q9.toInt) (hk : 0 ≤ k.toInt) (hx : kx.toInt = q9.toInt + k.toInt) (h2 : k2.toInt = k.toInt + 1) : ∀ j : Nat, upd g kx.toNatClampNeg ((32 : Int32).toInt8.toInt32) j = if q9.toInt ≤ (j : Int) ∧ (j : Int) < q9.toInt + k2.toInt then 32 else if q9.toInt + y ≤ (j : Int) ∧ (j : Int) < sz + y then f ((j : Int) - y).toNat else f j := by
  intro j
  have e1 := clI (x := kx) (by omega)
  by_cases q : j = kx.toNatClampNeg
  · rw [q, upd_s, if_pos (by omega)]; decide
  · rw [upd_n q, h8 j]
    by_cases w : q9.toInt ≤ (j : Int) ∧ (j : Int) < q9.toInt + k.toInt
    · rw [if_pos w, if_pos (by omega)]
    · rw [if_neg w]
      rw [if_neg (show ¬ (q9.toInt ≤ (j : Int) ∧ (j : Int) < q9.toInt + k2.toInt) by omega)]
theorem mv_l {f g : Nat → Int32} {q9 k kx k2 : Int32} {y : Int} (h8 : ∀ j : Nat, g j = if q9.toInt ≤ (j : Int) ∧ (j : Int) < k.toInt + y then f ((j : Int) - y).toNat else f j) (hk : 0 ≤ k.toInt) (hx : kx.toInt = k.toInt + y) (hq : 0 ≤ q9.toInt ∧ q9.toInt ≤ kx.toInt) (h2 : k2.toInt = k.toInt + 1) (hbt : BT f) (hy : y ≤ 0) : ∀ j : Nat, upd g kx.toNatClampNeg ((g k.toNatClampNeg).toInt8.toInt32) j = if q9.toInt ≤ (j : Int) ∧ (j : Int) < k2.toInt + y then f ((j : Int) - y).toNat else f j := by
  intro j
  have e0 := clI hk
  have e1 := clI (x := kx) (by omega)
  have hg : g k.toNatClampNeg = f k.toNatClampNeg := by rw [h8]; rw [if_neg (by omega)]
  by_cases q : j = kx.toNatClampNeg
  · rw [q, upd_s, hg, hbt, if_pos (by omega)]
    congr 1
    omega
  · rw [upd_n q, h8 j]
    by_cases w : q9.toInt ≤ (j : Int) ∧ (j : Int) < k.toInt + y
    · rw [if_pos w, if_pos (by omega)]
    · rw [if_neg w, if_neg (by omega)]
theorem mv_e1 {f g : Nat → Int32} {r : Nat} {q k y sz : Int} (h8 : ∀ j : Nat, g j = if q ≤ (j : Int) ∧ (j : Int) < q + k then 32 else if q + y ≤ (j : Int) ∧ (j : Int) < sz + y then f ((j : Int) - y).toNat else f j) (hr : (r : Int) = q) (hk : k = y) (hy : 0 < y) : g = mvf f r y sz := by
  funext j
  rw [h8 j]
  unfold mvf
  by_cases a : (j : Int) < r
  · rw [if_pos a, if_neg (by omega), if_neg (by omega)]
  · rw [if_neg a]
    by_cases b : (j : Int) < r + y
    · rw [if_pos (by omega), if_pos ⟨hy, b⟩]
    · rw [if_neg (by omega), if_neg (show ¬ (0 < y ∧ (j : Int) < r + y) by omega)]
      by_cases c : (j : Int) < sz + y
      · rw [if_pos (by omega), if_pos c]
      · rw [if_neg (by omega), if_neg c]
theorem mv_e2 {f g : Nat → Int32} {r : Nat} {q k y sz : Int} (h8 : ∀ j : Nat, g j = if q ≤ (j : Int) ∧ (j : Int) < k + y then f ((j : Int) - y).toNat else f j) (hr : (r : Int) = q) (hk : k = sz) (hy : y ≤ 0) : g = mvf f r y sz := by
  funext j
  rw [h8 j]
  unfold mvf
  by_cases a : (j : Int) < r
  · rw [if_pos a, if_neg (by omega)]
  · rw [if_neg a, if_neg (show ¬ (0 < y ∧ (j : Int) < r + y) by omega)]
    by_cases c : (j : Int) < sz + y
    · rw [if_pos (by omega), if_pos c]
    · rw [if_neg (by omega), if_neg c]
