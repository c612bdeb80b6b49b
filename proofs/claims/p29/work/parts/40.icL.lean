def IC (i F : Nat → Nat → Int32) : Prop := (0 ≤ (i 4 1).toInt ∧ (i 4 1).toInt ≤ 600) ∧ (∀ j, fits .byte (.int (F 5 j)) = true) ∧ (0 ≤ (i 6 1).toInt ∧ (i 6 1).toInt ≤ 600) ∧ (∀ j, fits .byte (.int (F 7 j)) = true) ∧ (0 ≤ (i 9 7).toInt ∧ (i 9 7).toInt ≤ 600) ∧ Tf17 i F ∧ Pp17 600 i F ∧ (0 ≤ (i 40 7).toInt ∧ (i 40 7).toInt ≤ 600) ∧ Tf48 i F ∧ Pp48 600 i F ∧ ((0 ≤ (i 73 1).toInt ∧ (i 73 1).toInt ≤ 4000) ∧ (0 ≤ (i 75 1).toInt ∧ (i 75 1).toInt ≤ 4000)) ∧ ((i 0 6 = nI 73 ∧ i 0 7 = nI 75) ∨ (i 0 6 = nI 75 ∧ i 0 7 = nI 73)) ∧ (0 ≤ (i 0 13).toInt ∧ (i 0 13).toInt ≤ 200)
theorem IC.t {i F i2 F2 : Nat → Nat → Int32} {G G2 : Nat → Nat → Int64} (hI : IC i F) (hon : On 4 6 i F G (i2, F2, G2)) (n_hsz : (0 ≤ (i2 4 1).toInt ∧ (i2 4 1).toInt ≤ 600)) (n_hbf : (∀ j, fits .byte (.int (F2 5 j)) = true)) : IC i2 F2 := by
  obtain ⟨hsz, hbf, hsz6, hbf7, htk, hF, hQ, htk2, hG, hQ2, hPg, hpt, hrw⟩ := hI
  have e0 : i2 0 = i 0 ∧ F2 0 = F 0 := hon.1 0 (by decide)
  have e6 : i2 6 = i 6 ∧ F2 6 = F 6 := hon.1 6 (by decide)
  have e7 : i2 7 = i 7 ∧ F2 7 = F 7 := hon.1 7 (by decide)
  have e9 : i2 9 = i 9 ∧ F2 9 = F 9 := hon.1 9 (by decide)
  have e40 : i2 40 = i 40 ∧ F2 40 = F 40 := hon.1 40 (by decide)
  have e73 : i2 73 = i 73 ∧ F2 73 = F 73 := hon.1 73 (by decide)
  have e75 : i2 75 = i 75 ∧ F2 75 = F 75 := hon.1 75 (by decide)
  exact ⟨n_hsz, n_hbf, by rw [e6.1]; exact hsz6, by rw [e7.2]; exact hbf7, by rw [e9.1]; exact htk, Tf17.on hF hon (by decide), Pp17.on hQ hon (by decide), by rw [e40.1]; exact htk2, Tf48.on hG hon (by decide), Pp48.on hQ2 hon (by decide), by rw [e73.1, e75.1]; exact hPg, by rw [e0.1]; exact hpt, by rw [e0.1]; exact hrw⟩
theorem IC.k {i F i2 F2 : Nat → Nat → Int32} {G G2 : Nat → Nat → Int64} (hI : IC i F) (hon : On 6 8 i F G (i2, F2, G2)) (n_hsz6 : (0 ≤ (i2 6 1).toInt ∧ (i2 6 1).toInt ≤ 600)) (n_hbf7 : (∀ j, fits .byte (.int (F2 7 j)) = true)) : IC i2 F2 := by
  obtain ⟨hsz, hbf, hsz6, hbf7, htk, hF, hQ, htk2, hG, hQ2, hPg, hpt, hrw⟩ := hI
  have e0 : i2 0 = i 0 ∧ F2 0 = F 0 := hon.1 0 (by decide)
  have e4 : i2 4 = i 4 ∧ F2 4 = F 4 := hon.1 4 (by decide)
  have e5 : i2 5 = i 5 ∧ F2 5 = F 5 := hon.1 5 (by decide)
  have e9 : i2 9 = i 9 ∧ F2 9 = F 9 := hon.1 9 (by decide)
  have e40 : i2 40 = i 40 ∧ F2 40 = F 40 := hon.1 40 (by decide)
  have e73 : i2 73 = i 73 ∧ F2 73 = F 73 := hon.1 73 (by decide)
  have e75 : i2 75 = i 75 ∧ F2 75 = F 75 := hon.1 75 (by decide)
  exact ⟨by rw [e4.1]; exact hsz, by rw [e5.2]; exact hbf, n_hsz6, n_hbf7, by rw [e9.1]; exact htk, Tf17.on hF hon (by decide), Pp17.on hQ hon (by decide), by rw [e40.1]; exact htk2, Tf48.on hG hon (by decide), Pp48.on hQ2 hon (by decide), by rw [e73.1, e75.1]; exact hPg, by rw [e0.1]; exact hpt, by rw [e0.1]; exact hrw⟩
theorem IC.n {i F i2 F2 : Nat → Nat → Int32} {G G2 : Nat → Nat → Int64} (hI : IC i F) (hon : On 8 39 i F G (i2, F2, G2)) (n_htk : (0 ≤ (i2 9 7).toInt ∧ (i2 9 7).toInt ≤ 600)) (n_hF : Tf17 i2 F2) (n_hQ : Pp17 600 i2 F2) : IC i2 F2 := by
  obtain ⟨hsz, hbf, hsz6, hbf7, htk, hF, hQ, htk2, hG, hQ2, hPg, hpt, hrw⟩ := hI
  have e0 : i2 0 = i 0 ∧ F2 0 = F 0 := hon.1 0 (by decide)
  have e4 : i2 4 = i 4 ∧ F2 4 = F 4 := hon.1 4 (by decide)
  have e5 : i2 5 = i 5 ∧ F2 5 = F 5 := hon.1 5 (by decide)
  have e6 : i2 6 = i 6 ∧ F2 6 = F 6 := hon.1 6 (by decide)
  have e7 : i2 7 = i 7 ∧ F2 7 = F 7 := hon.1 7 (by decide)
  have e40 : i2 40 = i 40 ∧ F2 40 = F 40 := hon.1 40 (by decide)
  have e73 : i2 73 = i 73 ∧ F2 73 = F 73 := hon.1 73 (by decide)
  have e75 : i2 75 = i 75 ∧ F2 75 = F 75 := hon.1 75 (by decide)
  exact ⟨by rw [e4.1]; exact hsz, by rw [e5.2]; exact hbf, by rw [e6.1]; exact hsz6, by rw [e7.2]; exact hbf7, n_htk, n_hF, n_hQ, by rw [e40.1]; exact htk2, Tf48.on hG hon (by decide), Pp48.on hQ2 hon (by decide), by rw [e73.1, e75.1]; exact hPg, by rw [e0.1]; exact hpt, by rw [e0.1]; exact hrw⟩
theorem IC.o {i F i2 F2 : Nat → Nat → Int32} {G G2 : Nat → Nat → Int64} (hI : IC i F) (hon : On 39 70 i F G (i2, F2, G2)) (n_htk2 : (0 ≤ (i2 40 7).toInt ∧ (i2 40 7).toInt ≤ 600)) (n_hG : Tf48 i2 F2) (n_hQ2 : Pp48 600 i2 F2) : IC i2 F2 := by
  obtain ⟨hsz, hbf, hsz6, hbf7, htk, hF, hQ, htk2, hG, hQ2, hPg, hpt, hrw⟩ := hI
  have e0 : i2 0 = i 0 ∧ F2 0 = F 0 := hon.1 0 (by decide)
  have e4 : i2 4 = i 4 ∧ F2 4 = F 4 := hon.1 4 (by decide)
  have e5 : i2 5 = i 5 ∧ F2 5 = F 5 := hon.1 5 (by decide)
  have e6 : i2 6 = i 6 ∧ F2 6 = F 6 := hon.1 6 (by decide)
  have e7 : i2 7 = i 7 ∧ F2 7 = F 7 := hon.1 7 (by decide)
  have e9 : i2 9 = i 9 ∧ F2 9 = F 9 := hon.1 9 (by decide)
  have e73 : i2 73 = i 73 ∧ F2 73 = F 73 := hon.1 73 (by decide)
  have e75 : i2 75 = i 75 ∧ F2 75 = F 75 := hon.1 75 (by decide)
  exact ⟨by rw [e4.1]; exact hsz, by rw [e5.2]; exact hbf, by rw [e6.1]; exact hsz6, by rw [e7.2]; exact hbf7, by rw [e9.1]; exact htk, Tf17.on hF hon (by decide), Pp17.on hQ hon (by decide), n_htk2, n_hG, n_hQ2, by rw [e73.1, e75.1]; exact hPg, by rw [e0.1]; exact hpt, by rw [e0.1]; exact hrw⟩
theorem IC.s {i F i2 F2 : Nat → Nat → Int32} {G G2 : Nat → Nat → Int64} (hI : IC i F) (hon : On 70 77 i F G (i2, F2, G2)) (n_hPg : ((0 ≤ (i2 73 1).toInt ∧ (i2 73 1).toInt ≤ 4000) ∧ (0 ≤ (i2 75 1).toInt ∧ (i2 75 1).toInt ≤ 4000))) : IC i2 F2 := by
  obtain ⟨hsz, hbf, hsz6, hbf7, htk, hF, hQ, htk2, hG, hQ2, hPg, hpt, hrw⟩ := hI
  have e0 : i2 0 = i 0 ∧ F2 0 = F 0 := hon.1 0 (by decide)
  have e4 : i2 4 = i 4 ∧ F2 4 = F 4 := hon.1 4 (by decide)
  have e5 : i2 5 = i 5 ∧ F2 5 = F 5 := hon.1 5 (by decide)
  have e6 : i2 6 = i 6 ∧ F2 6 = F 6 := hon.1 6 (by decide)
  have e7 : i2 7 = i 7 ∧ F2 7 = F 7 := hon.1 7 (by decide)
  have e9 : i2 9 = i 9 ∧ F2 9 = F 9 := hon.1 9 (by decide)
  have e40 : i2 40 = i 40 ∧ F2 40 = F 40 := hon.1 40 (by decide)
  exact ⟨by rw [e4.1]; exact hsz, by rw [e5.2]; exact hbf, by rw [e6.1]; exact hsz6, by rw [e7.2]; exact hbf7, by rw [e9.1]; exact htk, Tf17.on hF hon (by decide), Pp17.on hQ hon (by decide), by rw [e40.1]; exact htk2, Tf48.on hG hon (by decide), Pp48.on hQ2 hon (by decide), n_hPg, by rw [e0.1]; exact hpt, by rw [e0.1]; exact hrw⟩
theorem IC.c {i F i2 F2 : Nat → Nat → Int32} {G G2 : Nat → Nat → Int64} (hI : IC i F) (hon : On 14 15 i F G (i2, F2, G2))  : IC i2 F2 := by
  obtain ⟨hsz, hbf, hsz6, hbf7, htk, hF, hQ, htk2, hG, hQ2, hPg, hpt, hrw⟩ := hI
  have e0 : i2 0 = i 0 ∧ F2 0 = F 0 := hon.1 0 (by decide)
  have e4 : i2 4 = i 4 ∧ F2 4 = F 4 := hon.1 4 (by decide)
  have e5 : i2 5 = i 5 ∧ F2 5 = F 5 := hon.1 5 (by decide)
  have e6 : i2 6 = i 6 ∧ F2 6 = F 6 := hon.1 6 (by decide)
  have e7 : i2 7 = i 7 ∧ F2 7 = F 7 := hon.1 7 (by decide)
  have e9 : i2 9 = i 9 ∧ F2 9 = F 9 := hon.1 9 (by decide)
  have e40 : i2 40 = i 40 ∧ F2 40 = F 40 := hon.1 40 (by decide)
  have e73 : i2 73 = i 73 ∧ F2 73 = F 73 := hon.1 73 (by decide)
  have e75 : i2 75 = i 75 ∧ F2 75 = F 75 := hon.1 75 (by decide)
  exact ⟨by rw [e4.1]; exact hsz, by rw [e5.2]; exact hbf, by rw [e6.1]; exact hsz6, by rw [e7.2]; exact hbf7, by rw [e9.1]; exact htk, Tf17.on hF hon (by decide), Pp17.on hQ hon (by decide), by rw [e40.1]; exact htk2, Tf48.on hG hon (by decide), Pp48.on hQ2 hon (by decide), by rw [e73.1, e75.1]; exact hPg, by rw [e0.1]; exact hpt, by rw [e0.1]; exact hrw⟩
theorem IC.g {i F i2 F2 : Nat → Nat → Int32} {G G2 : Nat → Nat → Int64} (hI : IC i F) (hon : On 48 70 i F G (i2, F2, G2)) (n_hG : Tf48 i2 F2) (n_hQ2 : Pp48 600 i2 F2) : IC i2 F2 := by
  obtain ⟨hsz, hbf, hsz6, hbf7, htk, hF, hQ, htk2, hG, hQ2, hPg, hpt, hrw⟩ := hI
  have e0 : i2 0 = i 0 ∧ F2 0 = F 0 := hon.1 0 (by decide)
  have e4 : i2 4 = i 4 ∧ F2 4 = F 4 := hon.1 4 (by decide)
  have e5 : i2 5 = i 5 ∧ F2 5 = F 5 := hon.1 5 (by decide)
  have e6 : i2 6 = i 6 ∧ F2 6 = F 6 := hon.1 6 (by decide)
  have e7 : i2 7 = i 7 ∧ F2 7 = F 7 := hon.1 7 (by decide)
  have e9 : i2 9 = i 9 ∧ F2 9 = F 9 := hon.1 9 (by decide)
  have e40 : i2 40 = i 40 ∧ F2 40 = F 40 := hon.1 40 (by decide)
  have e73 : i2 73 = i 73 ∧ F2 73 = F 73 := hon.1 73 (by decide)
  have e75 : i2 75 = i 75 ∧ F2 75 = F 75 := hon.1 75 (by decide)
  exact ⟨by rw [e4.1]; exact hsz, by rw [e5.2]; exact hbf, by rw [e6.1]; exact hsz6, by rw [e7.2]; exact hbf7, by rw [e9.1]; exact htk, Tf17.on hF hon (by decide), Pp17.on hQ hon (by decide), by rw [e40.1]; exact htk2, n_hG, n_hQ2, by rw [e73.1, e75.1]; exact hPg, by rw [e0.1]; exact hpt, by rw [e0.1]; exact hrw⟩
theorem IC.r {i F i2 F2 : Nat → Nat → Int32} {G G2 : Nat → Nat → Int64} (hI : IC i F) (hon : On 77 78 i F G (i2, F2, G2))  : IC i2 F2 := by
  obtain ⟨hsz, hbf, hsz6, hbf7, htk, hF, hQ, htk2, hG, hQ2, hPg, hpt, hrw⟩ := hI
  have e0 : i2 0 = i 0 ∧ F2 0 = F 0 := hon.1 0 (by decide)
  have e4 : i2 4 = i 4 ∧ F2 4 = F 4 := hon.1 4 (by decide)
  have e5 : i2 5 = i 5 ∧ F2 5 = F 5 := hon.1 5 (by decide)
  have e6 : i2 6 = i 6 ∧ F2 6 = F 6 := hon.1 6 (by decide)
  have e7 : i2 7 = i 7 ∧ F2 7 = F 7 := hon.1 7 (by decide)
  have e9 : i2 9 = i 9 ∧ F2 9 = F 9 := hon.1 9 (by decide)
  have e40 : i2 40 = i 40 ∧ F2 40 = F 40 := hon.1 40 (by decide)
  have e73 : i2 73 = i 73 ∧ F2 73 = F 73 := hon.1 73 (by decide)
  have e75 : i2 75 = i 75 ∧ F2 75 = F 75 := hon.1 75 (by decide)
  exact ⟨by rw [e4.1]; exact hsz, by rw [e5.2]; exact hbf, by rw [e6.1]; exact hsz6, by rw [e7.2]; exact hbf7, by rw [e9.1]; exact htk, Tf17.on hF hon (by decide), Pp17.on hQ hon (by decide), by rw [e40.1]; exact htk2, Tf48.on hG hon (by decide), Pp48.on hQ2 hon (by decide), by rw [e73.1, e75.1]; exact hPg, by rw [e0.1]; exact hpt, by rw [e0.1]; exact hrw⟩
theorem IC.z0 {i F i2 F2 : Nat → Nat → Int32} {G G2 : Nat → Nat → Int64} (hI : IC i F) (hon : On 0 1 i F G (i2, F2, G2)) (n_hpt : ((i2 0 6 = nI 73 ∧ i2 0 7 = nI 75) ∨ (i2 0 6 = nI 75 ∧ i2 0 7 = nI 73))) (n_hrw : (0 ≤ (i2 0 13).toInt ∧ (i2 0 13).toInt ≤ 200)) : IC i2 F2 := by
  obtain ⟨hsz, hbf, hsz6, hbf7, htk, hF, hQ, htk2, hG, hQ2, hPg, hpt, hrw⟩ := hI
  have e4 : i2 4 = i 4 ∧ F2 4 = F 4 := hon.1 4 (by decide)
  have e5 : i2 5 = i 5 ∧ F2 5 = F 5 := hon.1 5 (by decide)
  have e6 : i2 6 = i 6 ∧ F2 6 = F 6 := hon.1 6 (by decide)
  have e7 : i2 7 = i 7 ∧ F2 7 = F 7 := hon.1 7 (by decide)
  have e9 : i2 9 = i 9 ∧ F2 9 = F 9 := hon.1 9 (by decide)
  have e40 : i2 40 = i 40 ∧ F2 40 = F 40 := hon.1 40 (by decide)
  have e73 : i2 73 = i 73 ∧ F2 73 = F 73 := hon.1 73 (by decide)
  have e75 : i2 75 = i 75 ∧ F2 75 = F 75 := hon.1 75 (by decide)
  exact ⟨by rw [e4.1]; exact hsz, by rw [e5.2]; exact hbf, by rw [e6.1]; exact hsz6, by rw [e7.2]; exact hbf7, by rw [e9.1]; exact htk, Tf17.on hF hon (by decide), Pp17.on hQ hon (by decide), by rw [e40.1]; exact htk2, Tf48.on hG hon (by decide), Pp48.on hQ2 hon (by decide), by rw [e73.1, e75.1]; exact hPg, n_hpt, n_hrw⟩
theorem IC.z {i F i2 F2 : Nat → Nat → Int32} {G G2 : Nat → Nat → Int64} (hI : IC i F) (hon : On 0 1 i F G (i2, F2, G2)) (h : ∀ j, j ≠ 8 → i2 0 j = i 0 j) : IC i2 F2 := IC.z0 hI hon (by rw [h 6 (by decide), h 7 (by decide)]; exact hI.2.2.2.2.2.2.2.2.2.2.2.1) (by rw [h 13 (by decide)]; exact hI.2.2.2.2.2.2.2.2.2.2.2.2)
theorem IC.ob {i F i2 F2 : Nat → Nat → Int32} {G G2 : Nat → Nat → Int64} (hI : IC i F) (hob : OB i F (i2, F2, G2)) : IC i2 F2 := by
  obtain ⟨hsz, hbf, hsz6, hbf7, htk, hF, hQ, htk2, hG, hQ2, hPg, hpt, hrw⟩ := hI
  have e0 : i2 0 = i 0 ∧ F2 0 = F 0 := hob 0 (by decide)
  have e4 : i2 4 = i 4 ∧ F2 4 = F 4 := hob 4 (by decide)
  have e5 : i2 5 = i 5 ∧ F2 5 = F 5 := hob 5 (by decide)
  have e6 : i2 6 = i 6 ∧ F2 6 = F 6 := hob 6 (by decide)
  have e7 : i2 7 = i 7 ∧ F2 7 = F 7 := hob 7 (by decide)
  have e9 : i2 9 = i 9 ∧ F2 9 = F 9 := hob 9 (by decide)
  have e40 : i2 40 = i 40 ∧ F2 40 = F 40 := hob 40 (by decide)
  have e73 : i2 73 = i 73 ∧ F2 73 = F 73 := hob 73 (by decide)
  have e75 : i2 75 = i 75 ∧ F2 75 = F 75 := hob 75 (by decide)
  have hon : On 1 4 i F G2 (i2, F2, G2) := ⟨fun k hk => hob k (by omega), rfl⟩
  exact ⟨by rw [e4.1]; exact hsz, by rw [e5.2]; exact hbf, by rw [e6.1]; exact hsz6, by rw [e7.2]; exact hbf7, by rw [e9.1]; exact htk, Tf17.on hF hon (by decide), Pp17.on hQ hon (by decide), by rw [e40.1]; exact htk2, Tf48.on hG hon (by decide), Pp48.on hQ2 hon (by decide), by rw [e73.1, e75.1]; exact hPg, by rw [e0.1]; exact hpt, by rw [e0.1]; exact hrw⟩
theorem BkC.bs {i F i2 F2 : Nat → Nat → Int32} {G G2 : Nat → Nat → Int64} {S : Int64 → Prop} (h : BkC i F G S) (hb : i2 1 = i 1 ∧ F2 3 = F 3 ∧ G2 = G) : BkC i2 F2 G2 S := by
  obtain ⟨e1, e2, e3⟩ := hb
  unfold BkC at h ⊢
  rw [e1, e2, e3]
  exact h
theorem stp_z (x : Int32) : stp x = 0 ∨ stp x = 1 := by unfold stp; split; exact Or.inr rfl; exact Or.inl rfl
theorem stp_01 (x : Int32) : (stp x).toInt = 0 ∨ (stp x).toInt = 1 := (stp_z x).imp (fun q => by rw [q]; rfl) (fun q => by rw [q]; rfl)
theorem mnI (a b : Int32) : (if b < a then b else a).toInt ≤ a.toInt ∧ (if b < a then b else a).toInt ≤ b.toInt := by
  split
  · rename_i h; have := Int32.lt_iff_toInt_lt.mp h; omega
  · rename_i h; have : ¬ b.toInt < a.toInt := fun q => h (Int32.lt_iff_toInt_lt.mpr q); omega
theorem fb_mulI {x y : Int32} (h1 : -2147483648 ≤ x.toInt * y.toInt) (h2 : x.toInt * y.toInt < 2147483648) : (x * y).toInt = x.toInt * y.toInt := by rw [Int32.toInt_mul, fb_bmod h1 h2]
