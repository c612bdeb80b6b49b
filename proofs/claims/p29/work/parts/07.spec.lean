/-! rows of kit/laws (BITS, COUNTS), pasted as they stand: words of 64 bits -/
theorem wb_tb (n : Nat) : (lN n).toBitVec = BitVec.ofNat 64 n := rfl
theorem wb_inj {a b : Int64} (h : a.toBitVec = b.toBitVec) : a = b := Int64.toBitVec_inj.mp h
theorem wb_tn {n : Nat} (h : n < 2 ^ 64) : (lN n).toBitVec.toNat = n := by rw [wb_tb, BitVec.toNat_ofNat, Nat.mod_eq_of_lt h]
theorem wb_of (x : Int64) : ∃ n, n < 2 ^ 64 ∧ x = lN n := ⟨x.toBitVec.toNat, x.toBitVec.isLt, wb_inj (by rw [wb_tb]; simp)⟩
theorem wb_of32 (x : Int32) : ∃ n, n < 2 ^ 32 ∧ x = nI n := ⟨x.toBitVec.toNat, x.toBitVec.isLt, Int32.toBitVec_inj.mp (by show _ = BitVec.ofNat 32 _; simp)⟩
theorem wb_c : ∀ k, k < 64 → ((nI k).toInt64 &&& 63) = lN k := by decide +kernel
theorem wb_cu : ∀ k, k < 64 → ((nI k).toInt64.toUInt64 &&& Int64.toUInt64 63) = UInt64.ofNat k := by decide +kernel
theorem wb_sm : ∀ k, k < 64 → (BitVec.ofNat 64 k).smod 64 = BitVec.ofNat 64 k := by decide +kernel
theorem wb_pw {a b : Nat} (h : a ≤ b) : 2 ^ b = 2 ^ a * 2 ^ (b - a) := by rw [← Nat.pow_add]; congr 1; omega
theorem wb_lt2 {a b : Nat} (h : a < b) : 2 ^ a < 2 ^ b := Nat.pow_lt_pow_right (by decide) h
theorem wb_mod (n : Nat) : lN n = lN (n % 2 ^ 64) := wb_inj (by rw [wb_tb, wb_tb]; apply BitVec.eq_of_toNat_eq; rw [BitVec.toNat_ofNat, BitVec.toNat_ofNat, Nat.mod_mod])
theorem wb_shr {n k : Nat} (hn : n < 2 ^ 64) (hk : k < 64) : ((lN n).toUInt64 >>> ((nI k).toInt64.toUInt64 &&& Int64.toUInt64 63)).toInt64 = lN (n / 2 ^ k) := by
  rw [wb_cu k hk]
  apply wb_inj
  apply BitVec.eq_of_toNat_eq
  show ((lN n).toUInt64 >>> UInt64.ofNat k).toNat = (BitVec.ofNat 64 _).toNat
  have h1 : (UInt64.ofNat k).toNat = k := by
    show (BitVec.ofNat 64 k).toNat = k
    rw [BitVec.toNat_ofNat, Nat.mod_eq_of_lt (by omega)]
  have h2 : (lN n).toUInt64.toNat = n := wb_tn hn
  rw [UInt64.toNat_shiftRight, h1, h2, Nat.mod_eq_of_lt hk, Nat.shiftRight_eq_div_pow, BitVec.toNat_ofNat, Nat.mod_eq_of_lt (Nat.lt_of_le_of_lt (Nat.div_le_self _ _) hn)]
theorem wb_shl (n : Nat) {k : Nat} (hk : k < 64) : lN n <<< ((nI k).toInt64 &&& 63) = lN (n * 2 ^ k) := by
  rw [wb_c k hk]
  apply wb_inj
  rw [Int64.toBitVec_shiftLeft, wb_tb, wb_tb, wb_tb, wb_sm k hk]
  apply BitVec.eq_of_toNat_eq
  rw [BitVec.shiftLeft_eq', BitVec.toNat_shiftLeft, BitVec.toNat_ofNat, BitVec.toNat_ofNat, BitVec.toNat_ofNat, Nat.mod_eq_of_lt (show k < 2 ^ 64 by omega), Nat.shiftLeft_eq, Nat.mul_mod, Nat.mod_mod, ← Nat.mul_mod]
theorem wb_and {a b : Nat} (ha : a < 2 ^ 64) (hb : b < 2 ^ 64) : lN a &&& lN b = lN (a &&& b) := by
  apply wb_inj
  rw [Int64.toBitVec_and, wb_tb, wb_tb, wb_tb]
  apply BitVec.eq_of_toNat_eq
  rw [BitVec.toNat_and, BitVec.toNat_ofNat, BitVec.toNat_ofNat, BitVec.toNat_ofNat, Nat.mod_eq_of_lt ha, Nat.mod_eq_of_lt hb, Nat.mod_eq_of_lt (Nat.and_lt_two_pow _ hb)]
theorem wb_or {a b : Nat} (ha : a < 2 ^ 64) (hb : b < 2 ^ 64) : lN a ||| lN b = lN (a ||| b) := by
  apply wb_inj
  rw [Int64.toBitVec_or, wb_tb, wb_tb, wb_tb]
  apply BitVec.eq_of_toNat_eq
  rw [BitVec.toNat_or, BitVec.toNat_ofNat, BitVec.toNat_ofNat, BitVec.toNat_ofNat, Nat.mod_eq_of_lt ha, Nat.mod_eq_of_lt hb, Nat.mod_eq_of_lt (Nat.or_lt_two_pow ha hb)]
theorem wb_mask {n k : Nat} (hn : n < 2 ^ 64) (hk : k < 64) : lN n &&& lN (2 ^ k - 1) = lN (n % 2 ^ k) := by
  rw [wb_and hn (by have := wb_lt2 hk; omega), Nat.and_two_pow_sub_one_eq_mod]
theorem wb_a1 {n : Nat} (hn : n < 2 ^ 64) : lN n &&& 1 = lN (n % 2) := wb_mask (k := 1) hn (by decide)
theorem wb_bit {n k : Nat} (hn : n < 2 ^ 64) (hk : k < 64) : ((lN n).toUInt64 >>> ((nI k).toInt64.toUInt64 &&& Int64.toUInt64 63)).toInt64 &&& 1 = lN (n / 2 ^ k % 2) := by
  rw [wb_shr hn hk, wb_a1 (Nat.lt_of_le_of_lt (Nat.div_le_self _ _) hn)]
theorem fb_orL (a b : Nat) : lN a ||| lN b = lN (a ||| b) := by
  apply Int64.toBitVec_inj.1
  show BitVec.ofNat 64 a ||| BitVec.ofNat 64 b = BitVec.ofNat 64 (a ||| b)
  apply BitVec.eq_of_getLsbD_eq
  intro i hi
  simp [hi]
theorem fb_or_sumL {a k : Nat} (b : Nat) (h : a < 2 ^ k) : lN (2 ^ k * b) ||| lN a = lN (2 ^ k * b + a) := by rw [fb_orL, Nat.two_pow_add_eq_or_of_lt h]
/-! what the book's calls say of a long, in whole numbers -/
def wn (w : Int64) : Nat := w.toBitVec.toNat
theorem wn_lt (w : Int64) : wn w < 2 ^ 64 := w.toBitVec.isLt
theorem wn_eq (w : Int64) : w = lN (wn w) := wb_inj (by rw [wb_tb]; simp [wn])
theorem wn_lN {n : Nat} (h : n < 2 ^ 64) : wn (lN n) = n := wb_tn h
/-- byte k of w -/
def bt (w : Int64) (k : Nat) : Nat := wn w / 2 ^ (8 * k) % 256
theorem bt_lt (w : Int64) (k : Nat) : bt w k < 256 := Nat.mod_lt _ (by decide)
theorem bt_m (w : Int64) {k : Nat} (hk : k < 8) : (w.toUInt64 >>> ((8 * nI k).toInt64.toUInt64 &&& Int64.toUInt64 63)).toInt64 &&& 255 = lN (bt w k) := by
  have e8 : (8 : Int32) * nI k = nI (8 * k) := pk_mul 8 k
  rw [e8]
  have := wn_lt w
  conv => lhs; rw [wn_eq w]
  rw [wb_shr (wn_lt w) (by omega), show (255 : Int64) = lN (2 ^ 8 - 1) from rfl, wb_mask (Nat.lt_of_le_of_lt (Nat.div_le_self _ _) (wn_lt w)) (by decide)]
  rfl
theorem nz_ {n : Nat} (h : ¬ nI n = 0) : ¬ n = 0 := fun q => h (by rw [q]; rfl)
theorem zz_ {n : Nat} (hn : n < 2 ^ 31) (h : nI n = 0) : n = 0 := (nI_eq hn (by decide)).mp (h.trans nI_0.symm)
/-- how many bytes stand ahead of the first 0 -/
def zl (w : Int64) : Nat := if bt w 0 = 0 then 0 else if bt w 1 = 0 then 1 else if bt w 2 = 0 then 2 else if bt w 3 = 0 then 3 else if bt w 4 = 0 then 4 else if bt w 5 = 0 then 5 else if bt w 6 = 0 then 6 else if bt w 7 = 0 then 7 else 8
theorem zl_le (w : Int64) : zl w ≤ 8 := by unfold zl; (repeat' split) <;> omega
/-- the word or mark that is told -/
def nmw (w : Int64) : Int64 := lN (wn w % 2 ^ (8 * zl w))
def lt_ (x : Int32) : Int32 := if 97 ≤ x ∧ x ≤ 122 then 1 else 0
theorem lt_f1 {x : Int32} (h : x < 97) : (0 : Int32) = lt_ x := by unfold lt_; rw [if_neg (fun q => Int32.not_le.mpr h q.1)]
theorem lt_f2 {x : Int32} (h : 122 < x) : (0 : Int32) = lt_ x := by unfold lt_; rw [if_neg (fun q => Int32.not_le.mpr h q.2)]
theorem lt_t {x : Int32} (h1 : ¬ x < 97) (h2 : ¬ 122 < x) : (1 : Int32) = lt_ x := by unfold lt_; rw [if_pos ⟨Int32.not_lt.mp h1, Int32.not_lt.mp h2⟩]
theorem bt_lb (w : Int64) (k : Nat) : bt w k < 2 ^ 31 := Nat.lt_trans (bt_lt w k) (by decide)
theorem lt_1 {n : Nat} (hn : n < 256) (h : ¬ lt_ (nI n) = 0) : 97 ≤ n ∧ n ≤ 122 := by
  unfold lt_ at h
  by_cases q : (97 : Int32) ≤ nI n ∧ nI n ≤ 122
  · exact ⟨(nI_leI (a := 97) (by decide) (by omega)).mp q.1, (nI_leI (b := 122) (by omega) (by decide)).mp q.2⟩
  · rw [if_neg q] at h; exact absurd rfl h
theorem lt_0_ {n : Nat} (hn : n < 256) (h : lt_ (nI n) = 0) : ¬ (97 ≤ n ∧ n ≤ 122) := by
  intro q
  unfold lt_ at h
  rw [if_pos ⟨(nI_leI (a := 97) (by decide) (by omega)).mpr q.1, (nI_leI (b := 122) (by omega) (by decide)).mpr q.2⟩] at h
  exact absurd h (by decide)
/-- it is a word: letters up to the first 0, one at least -/
def wd (t : Int64) : Prop := 0 < zl t ∧ ∀ k, k < zl t → 97 ≤ bt t k ∧ bt t k ≤ 122
theorem wd_no {t : Int64} {k : Nat} (h1 : k < zl t) (h2 : ¬ (97 ≤ bt t k ∧ bt t k ≤ 122)) : ¬ wd t := fun h => h2 (h.2 k h1)
theorem lt_nI {a b : Nat} (ha : a < 2 ^ 31) (hb : b < 2 ^ 31) (h : ¬ nI a ≤ nI b) : b < a := Nat.not_le.mp (fun q => h ((nI_leI ha hb).mpr q))
theorem le_nI {a b : Nat} (ha : a < 2 ^ 31) (hb : b < 2 ^ 31) (h : nI a ≤ nI b) : a ≤ b := (nI_leI ha hb).mp h
/-- all bytes behind the first 0 are 0 -/
def tl0 (t : Int64) : Prop := ∀ k, k < 8 → zl t ≤ k → bt t k = 0
theorem zl_nz {w : Int64} {k : Nat} (hk : k < 8) (h : k < zl w) : ¬ bt w k = 0 := by
  intro q
  have hz : zl w ≤ k := by
    rcases (show k = 0 ∨ k = 1 ∨ k = 2 ∨ k = 3 ∨ k = 4 ∨ k = 5 ∨ k = 6 ∨ k = 7 by omega) with rfl | rfl | rfl | rfl | rfl | rfl | rfl | rfl <;> (unfold zl; simp only [q, if_true]; (repeat' split) <;> omega)
  omega
theorem zl_at0 {w : Int64} (h : zl w < 8) : bt w (zl w) = 0 := by
  unfold zl at h ⊢
  (repeat' split at h) <;> first | omega | (simp_all; done)
theorem pw8 {a b : Nat} (h : a ≤ b) (hb : b ≤ 8) : 2 ^ (8 * a) ≤ 2 ^ 64 := Nat.pow_le_pow_right (by decide) (by omega)
theorem bt_nmw {w : Int64} {k : Nat} : bt (nmw w) k = if k < zl w then bt w k else 0 := by
  have hz := zl_le w
  have h1 : wn w % 2 ^ (8 * zl w) < 2 ^ 64 := Nat.lt_of_le_of_lt (Nat.mod_le _ _) (wn_lt w)
  unfold bt nmw
  rw [wn_lN h1]
  by_cases h : k < zl w
  · rw [if_pos h]
    have e : 8 * zl w = 8 * k + (8 + (8 * zl w - 8 * k - 8)) := by omega
    rw [e, Nat.pow_add, Nat.mod_mul_right_div_self, Nat.pow_add, show (2 : Nat) ^ 8 = 256 from rfl, Nat.mod_mul_right_mod]
  · rw [if_neg h]
    have : wn w % 2 ^ (8 * zl w) < 2 ^ (8 * k) := Nat.lt_of_lt_of_le (Nat.mod_lt _ (Nat.two_pow_pos _)) (Nat.pow_le_pow_right (by decide) (by omega))
    rw [Nat.div_eq_of_lt this]
theorem zl_of {w : Int64} {z : Nat} (hz : z ≤ 8) (h1 : ∀ k, k < z → ¬ bt w k = 0) (h2 : z < 8 → bt w z = 0) : zl w = z := by
  have a := zl_le w
  rcases Nat.lt_trichotomy (zl w) z with q | q | q
  · exact absurd (zl_at0 (by omega)) (h1 _ q)
  · exact q
  · exact absurd (h2 (by omega)) (zl_nz (by omega) q)
theorem zl_nmw (w : Int64) : zl (nmw w) = zl w := by
  refine zl_of (zl_le w) (fun k hk => ?_) (fun h => ?_)
  · rw [bt_nmw, if_pos hk]; exact zl_nz (by have := zl_le w; omega) hk
  · rw [bt_nmw, if_neg (by omega)]
theorem tl0_nmw (w : Int64) : tl0 (nmw w) := fun k hk h => by rw [bt_nmw, if_neg (by rw [zl_nmw] at h; omega)]
theorem wd_yes {t : Int64} {n : Nat} (hn : zl t ≤ n) (h0 : 0 < zl t) (h : ∀ k, k < n → 97 ≤ bt t k ∧ bt t k ≤ 122) : wd t := ⟨h0, fun k hk => h k (by omega)⟩
theorem zl_lb (w : Int64) : zl w < 2 ^ 31 := Nat.lt_of_le_of_lt (zl_le w) (by decide)
noncomputable def wdI (t : Int64) : Int32 := @ite _ (wd t) (Classical.propDecidable _) 1 0
theorem wdI_1 {t : Int64} (h : wd t) : wdI t = 1 := if_pos h
theorem wdI_0 {t : Int64} (h : ¬ wd t) : wdI t = 0 := if_neg h
theorem wdI_01 (t : Int64) : wdI t = 0 ∨ wdI t = 1 := (Classical.em (wd t)).elim (fun h => Or.inr (wdI_1 h)) (fun h => Or.inl (wdI_0 h))
theorem zl8 {w : Int64} (h : nI (zl w) = 8) : zl w = 8 := (nI_eq (b := 8) (zl_lb w) (by decide)).mp h
theorem nm8 {w : Int64} (h : nI (zl w) = 8) : w = nmw w := by
  unfold nmw
  rw [zl8 h]
  exact (wn_eq w).trans (wb_mod _)
theorem nmk0 (w : Int64) {z : Nat} (hz : z < 8) : w &&& ((1 <<< ((8 * nI z).toInt64 &&& 63)) - 1) = lN (wn w % 2 ^ (8 * z)) := by
  have e8 : (8 : Int32) * nI z = nI (8 * z) := pk_mul 8 z
  rw [e8, show (1 : Int64) = lN 1 from rfl, wb_shl 1 (by omega), Nat.one_mul, lN_sub (Nat.one_le_two_pow)]
  have h := wb_mask (wn_lt w) (k := 8 * z) (by omega)
  rw [← wn_eq w] at h
  exact h
theorem nmk {w : Int64} (h : ¬ nI (zl w) = 8) : w &&& ((1 <<< ((8 * nI (zl w)).toInt64 &&& 63)) - 1) = nmw w := by
  have h1 : ¬ zl w = 8 := fun q => h (by rw [q]; rfl)
  have h2 := zl_le w
  exact nmk0 w (by omega)
def stp (x : Int32) : Int32 := if x = 1 ∨ x = 2 ∨ x = 3 ∨ x = 5 then 1 else 0
def inI (v x y : Int64) : Int32 := if x ≤ v ∧ v ≤ y then 1 else 0
theorem in_f1 {v x y : Int64} (h : v < x) : (0 : Int32) = inI v x y := by unfold inI; rw [if_neg (fun q => Int64.not_le.mpr h q.1)]
theorem in_f2 {v x y : Int64} (h : y < v) : (0 : Int32) = inI v x y := by unfold inI; rw [if_neg (fun q => Int64.not_le.mpr h q.2)]
theorem in_t {v x y : Int64} (h1 : ¬ v < x) (h2 : ¬ y < v) : (1 : Int32) = inI v x y := by unfold inI; rw [if_pos ⟨Int64.not_lt.mp h1, Int64.not_lt.mp h2⟩]
theorem md_step (w : Int64) (k : Nat) : wn w % 2 ^ (8 * (k + 1)) = 2 ^ (8 * k) * bt w k + wn w % 2 ^ (8 * k) := by
  unfold bt
  rw [show 8 * (k + 1) = 8 * k + 8 by omega, Nat.pow_add, show (2 : Nat) ^ 8 = 256 from rfl, Nat.mod_mul, Nat.add_comm]
theorem tstep (w : Int64) {k : Nat} (hk : k < 8) : lN (wn w % 2 ^ (8 * k)) ||| (lN (bt w k) <<< ((8 * nI k).toInt64 &&& 63)) = lN (wn w % 2 ^ (8 * (k + 1))) := by
  have e8 : (8 : Int32) * nI k = nI (8 * k) := pk_mul 8 k
  rw [e8, wb_shl _ (by omega), md_step, Nat.mul_comm (bt w k), fb_orL, Nat.or_comm, ← fb_orL, fb_or_sumL _ (Nat.mod_lt _ (Nat.two_pow_pos _))]
theorem lN0 {n : Nat} (hn : n < 2 ^ 31) (h : lN n = 0) : n = 0 := (lN_eq hn (by decide)).mp h
theorem tend {w : Int64} {k : Nat} (hk : k < 8) (h : ∀ j, j < k → ¬ bt w j = 0) (h0 : bt w k = 0) : lN (wn w % 2 ^ (8 * (k + 1))) = nmw w := by
  unfold nmw
  rw [zl_of (by omega) h (fun _ => h0), md_step, h0, Nat.mul_zero, Nat.zero_add]
theorem tfin {w : Int64} (h : ∀ j, j < 8 → ¬ bt w j = 0) : lN (wn w % 2 ^ (8 * 8)) = nmw w := by
  unfold nmw
  rw [zl_of (Nat.le_refl 8) h (fun q => absurd q (Nat.lt_irrefl 8))]
theorem all0 {t : Int64} (h : ∀ k, k < 8 → bt t k = 0) : t = 0 := by
  have e : ∀ k, k ≤ 8 → wn t % 2 ^ (8 * k) = 0 := by
    intro k
    induction k with
    | zero => intro _; exact Nat.mod_one _
    | succ k ih => intro hk; rw [md_step, h k (by omega), ih (by omega), Nat.mul_zero]
  have := e 8 (Nat.le_refl 8)
  rw [Nat.mod_eq_of_lt (wn_lt t)] at this
  rw [wn_eq t, this]
  rfl
theorem wd_z {t : Int64} (h : t = 0) : ¬ wd t := fun q => by
  have : zl t = 0 := by subst h; decide +kernel
  have := q.1
  omega
theorem wd_m {t : Int64} (ht : tl0 t) (h0 : ¬ t = 0) (h : ∀ j, j < 8 → bt t j = 0 ∨ (97 ≤ bt t j ∧ bt t j ≤ 122)) : wd t := by
  have h8 := zl_le t
  refine ⟨?_, fun k hk => (h k (by omega)).resolve_left (zl_nz (by omega) hk)⟩
  rcases Nat.eq_zero_or_pos (zl t) with q | q
  · exact absurd (all0 (fun k hk => ht k hk (by omega))) h0
  · exact q
theorem wd_mn {t : Int64} (ht : tl0 t) {k : Nat} (hk : k < 8) (h0 : ¬ bt t k = 0) (h1 : ¬ (97 ≤ bt t k ∧ bt t k ≤ 122)) : ¬ wd t := fun q => h1 (q.2 k (Nat.not_le.mp (fun z => h0 (ht k hk z))))
def mkN : List Nat := [33, 34, 36, 37, 38, 40, 41, 42, 43, 44, 45, 46, 47, 58, 59, 60, 61, 62, 63, 64, 91, 93, 94, 95, 124]
def mkb (n : Nat) : Int32 := if n ∈ mkN then 1 else 0
/-- it is one mark -/
def mk1 (t : Int64) : Int32 := if 1 ≤ t ∧ t ≤ 255 then mkb (wn t) else 0
theorem of255 {t : Int64} (h1 : 1 ≤ t) (h2 : t ≤ 255) : wn t < 256 ∧ t = lN (wn t) := by
  have e := wn_eq t
  have l1 := Int64.le_iff_toInt_le.mp h1
  have l2 := Int64.le_iff_toInt_le.mp h2
  have l3 : t.toInt = t.toBitVec.toInt := rfl
  rw [l3, BitVec.toInt_eq_toNat_cond] at l1 l2
  have hl := wn_lt t
  have w1 : t.toBitVec.toNat = wn t := rfl
  rw [w1] at l1 l2
  have k1 : (1 : Int64).toInt = 1 := rfl
  have k2 : (255 : Int64).toInt = 255 := rfl
  rw [k1] at l1
  rw [k2] at l2
  refine ⟨?_, e⟩
  split at l1 <;> split at l2 <;> omega
theorem lt_nn {k : Nat} (h : k < 8) : ¬ (8 : Int32) ≤ nI k := fun q => by have := (nI_leI (a := 8) (by decide) (by omega)).mp q; omega
