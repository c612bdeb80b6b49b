set_option maxRecDepth 20000 in
theorem w_z : Cond.laysStatic "java/lang/String" "COMPACT_STRINGS" "Z" ∈ tables_1 := List.mem_of_getElem? (i := 459) (by decide +kernel)
set_option maxRecDepth 20000 in
theorem w_zi : Cond.initialized "java/lang/String" ∈ tables_1 := List.mem_of_getElem? (i := 12) (by decide +kernel)
set_option maxRecDepth 20000 in
theorem w_sr : Cond.stringRef "IndentReader" 320 mkTx ∈ tables_1 := List.mem_of_getElem? (i := 445) (by decide +kernel)
set_option maxHeartbeats 4000000 in
set_option maxRecDepth 100000 in
/-- from the entry, over the tables -/
theorem law_go {p : Program} {l : Launch} {e : Env} {s : State} {m : MethodId} {below : List Frame} {meth : Method} {c : Code} {D : va_G} {tA : Nat → ClassId} {b sb L : Nat} {xs : Nat → Int32} {ls : Array Slot} (hL : L ≤ 2048) (C0 : Cx p s m #[Value.ref sb] meth c code 4 RL D tA b 0 78 (Sb b)) (C2 : Cx p s m #[Value.ref sb] meth c code 4 RL D tA b 78 52 (Sb b)) (hX : va_X sb L xs s s.heap) (hbl : sb < s.heap.size) (hb : b = s.heap.size) (hr : meth.sig.returnType = ret) (hlk : meth.locks = false) (hl : lv_has ls 4 [(0, .ref sb)]) : W p l e room_1 s m #[Value.ref sb] below meth c s.heap [] 0 0 (lw_Z below #[Value.ref sb] s) (F0 m 0 ls []) := by
  have hS : va_S (Sb b) s.heap s.heap [] := va_S.rf
  have hH : Hd D tA b 0 0 z1_ i1_ i1_ G0_ s.heap := fun k q h => by simp [wl] at h
  refine xnewo (pc := 0) (n := 0) C0 (by decide) hH (by omega) hS clX9 cl_L_7 in_X9 it_X9 ⟨rfl, rfl⟩ (fr0.o (by decide +kernel)) ⟨Nat.le_of_ble_eq_true rfl, Nat.le_of_ble_eq_true rfl⟩ dL_law_0 (fun _ hH hz hS => ?_)
  refine lv_dup (pc := 3) C0.1 C0.2.1 dL_law_3 rfl ?_
  refine xcI (pc := 4) 0 (c_X9_init_0 l D tA b _ _ _ _ (fr0.up (by decide))) C0 (by decide) hH hz hS ml_L_9 it_X9 cd_X9_init (by decide +kernel) rfl im_X9_init ⟨Nat.le_of_ble_eq_true rfl, Nat.le_of_ble_eq_true rfl⟩ hl.1 rfl (Nat.le_of_ble_eq_true rfl) dL_law_4 ⟨Nat.le_of_ble_eq_true rfl, Nat.le_of_ble_eq_true rfl⟩ (fun _ locs hH hz hS => ?_)
  have hC : Hd D tA b 0 78 zz i0 F0_ G0_ _ := Hd.cg (z := zC_) (i := iC_) (F := i1_) hH (fun k hk => xE_cg (okC_a cgC (by omega)) (cgFC (by omega)))
  refine W.widen (k := 78) (n := 51007) (by decide) (by decide) ?_
  refine lv_astore_n (pc := 7) (lv' := [(1, .ref (b + 0)), (0, .ref sb)]) C0.1 C0.2.1 dL_law_7 rfl hl (by decide) rfl (fun ls hl => ?_)
  refine xnewoK (pc := 8) (o := 78) C2 hC (by omega) (by decide) hS clX10 cl_L_10 in_X10 it_X10 ⟨rfl, rfl⟩ ((fr0.up (n2 := 78) (by decide)).o (by decide +kernel)) ⟨Nat.le_of_ble_eq_true rfl, Nat.le_of_ble_eq_true rfl⟩ dL_law_8 (F := i1_) (G := G0_) (fun _ hM hC hz hS => ?_)
  refine lv_dup (pc := 11) C0.1 C0.2.1 dL_law_11 rfl ?_
  refine xcIK (pc := 12) 78 (c_X10_init_78 l D tA b _ _ _ _ (fr0.up (by decide))) C2 (by decide) hM hC (by decide) hz hS ml_L_12 it_X10 cd_X10_init (by decide +kernel) rfl im_X10_init ⟨Nat.le_of_ble_eq_true rfl, Nat.le_of_ble_eq_true rfl⟩ hl.1 rfl (Nat.le_of_ble_eq_true rfl) dL_law_12 ⟨Nat.le_of_ble_eq_true rfl, Nat.le_of_ble_eq_true rfl⟩ (fun _ locs hM hC hz hS => ?_)
  have hM : Hd D tA b 78 52 zz i0 F0_ G0_ _ := Hd.cg (z := zM_) (i := iM_) (F := FM_) hM (fun k hk => xE_cg (okM_a (by omega) (by omega)) (cgFM k))
  refine W.widen (k := 130) (n := 99576) (by decide) (by decide) ?_
  refine lv_astore_n (pc := 15) (lv' := [(2, .ref (b + 78)), (1, .ref (b + 0)), (0, .ref sb)]) C0.1 C0.2.1 dL_law_15 rfl hl (by decide) rfl (fun ls hl => ?_)
  refine lv_iconst (pc := 16) (v := 0) C0.1 C0.2.1 dL_law_16 (by decide) ?_
  refine lv_istore_n (pc := 17) (lv' := [(3, .int 0), (2, .ref (b + 78)), (1, .ref (b + 0)), (0, .ref sb)]) C0.1 C0.2.1 dL_law_17 rfl hl (by decide) rfl (fun ls hl => ?_)
  exact law_loop ⟨hL, C0, C2, hX, hbl, hb, hr, hlk⟩ 2048 0 (i0, F0_, G0_) (i0, F0_, G0_) _ _ _ (by have : Int32.toInt 0 = 0 := rfl; omega) (by decide) (by decide) li0 hC hM hS hl

theorem arrT {s : State} {A : Array Value} {ty : FieldType} (h : (Cond.arrayClass ty).before A s = true) : ∃ cA : ClassId, ArrOfT s cA ty ∧ s.vm.findClass ("[" ++ ty.toString) = some cA := by
  obtain ⟨cA, kA, comp, hfind, hk, hkind⟩ := Cond.arrayClass_spec h
  exact ⟨cA, fun n z => ⟨fun k h => (by cases h), kA, hk, comp, hkind⟩, hfind⟩

set_option maxHeartbeats 4000000 in
set_option maxRecDepth 100000 in
/-- YOUR PART: from the entry, for every script of at most 2048 ints, the law comes to its end with true -/
theorem whole_start {p : Program} {e : Env} {s : State} {m : MethodId} {below : List Frame} {meth : Method} {c : Code} (l : Launch) {b L : Nat} {xs : Nat → Int32} (hL : L ≤ 2048) (C0 : lw_At p s m meth c b L xs) : W p l e room_1 s m #[Value.ref b] below meth c s.heap [] 0 0 (lw_Z below #[Value.ref b] s) (entryFrame m ([Value.ref b] : List Value).toArray 4) := by
  obtain ⟨hx, hb, hr, hml, hown, hts, hX, hbl, hlocks, hgv⟩ := id C0
  have htw : ∀ w ∈ WALL, w.before #[Value.ref b] s = true := fun w h => hts w (wal_in h)
  have htt : ∀ w ∈ tables_1, w.before #[Value.ref b] s = true := fun w h => hts w (List.mem_append_right _ h)
  have hg := flat_of_before _ hgv
  have hSb : ∀ a : Nat, a < s.heap.size → ¬ Sb s.heap.size a := fun a h q => by unfold Sb at q; omega
  obtain ⟨c0, iS0, hKn0⟩ := u_known (C := RX0) (T := TX0) (N := 10) (n := 10) htw (clX0).1.2 (htw _ in_X0)
  obtain ⟨c1, iS1, hKn1⟩ := u_known (C := RX1) (T := TX1) (N := 8) (n := 8) htw (clX1).1.2 (htw _ in_X1)
  obtain ⟨c2, iS2, hKn2⟩ := u_known (C := RX2) (T := TX2) (N := 9) (n := 9) htw (clX2).1.2 (htw _ in_X2)
  obtain ⟨c3, iS3, hKn3⟩ := u_known (C := RX3) (T := TX3) (N := 3) (n := 3) htw (clX3).1.2 (htw _ in_X3)
  obtain ⟨c4, iS4, hKn4⟩ := u_known (C := RX4) (T := TX4) (N := 6) (n := 6) htw (clX4).1.2 (htw _ in_X4)
  obtain ⟨c5, iS5, hKn5⟩ := u_known (C := RX5) (T := TX5) (N := 4) (n := 4) htw (clX5).1.2 (htw _ in_X5)
  obtain ⟨c6, iS6, hKn6⟩ := u_known (C := RX6) (T := TX6) (N := 2) (n := 2) htw (clX6).1.2 (htw _ in_X6)
  obtain ⟨c7, iS7, hKn7⟩ := u_known (C := RX7) (T := TX7) (N := 14) (n := 14) htw (clX7).1.2 (htw _ in_X7)
  obtain ⟨c8, iS8, hKn8⟩ := u_known (C := RX8) (T := TX8) (N := 10) (n := 10) htw (clX8).1.2 (htw _ in_X8)
  obtain ⟨c9, iS9, hKn9⟩ := u_known (C := RX9) (T := TX9) (N := 14) (n := 14) htw (clX9).1.2 (htw _ in_X9)
  obtain ⟨c10, iS10, hKn10⟩ := u_known (C := RX10) (T := TX10) (N := 79) (n := 79) htw (clX10).1.2 (htw _ in_X10)
  obtain ⟨dC, dI, hKc⟩ : ∃ (dC : Nat → ClassId) (dI : Nat → Nat → Nat), ∀ (k : Nat) (q : vw_C), vwCl[k]? = some q → u_Kn s q.1 q.2.1 q.2.2 (dC k) (dI k) := by
    refine ⟨fun k => if k = 0 then c0 else if k = 1 then c1 else if k = 2 then c2 else if k = 3 then c3 else if k = 4 then c4 else if k = 5 then c5 else if k = 6 then c6 else if k = 7 then c7 else if k = 8 then c8 else if k = 9 then c9 else c10, fun k => if k = 0 then iS0 else if k = 1 then iS1 else if k = 2 then iS2 else if k = 3 then iS3 else if k = 4 then iS4 else if k = 5 then iS5 else if k = 6 then iS6 else if k = 7 then iS7 else if k = 8 then iS8 else if k = 9 then iS9 else iS10, ?_⟩
    intro k q hq
    match k, hq with
    | 0, hq => cases hq; exact hKn0
    | 1, hq => cases hq; exact hKn1
    | 2, hq => cases hq; exact hKn2
    | 3, hq => cases hq; exact hKn3
    | 4, hq => cases hq; exact hKn4
    | 5, hq => cases hq; exact hKn5
    | 6, hq => cases hq; exact hKn6
    | 7, hq => cases hq; exact hKn7
    | 8, hq => cases hq; exact hKn8
    | 9, hq => cases hq; exact hKn9
    | 10, hq => cases hq; exact hKn10
    | k + 11, hq => simp [vwCl] at hq
  obtain ⟨cI, hI1, hI2⟩ := arrT (htw _ ac_int)
  obtain ⟨cB, hB1, hB2⟩ := arrT (htw _ ac_byte)
  obtain ⟨cZ, hZ1, hZ2⟩ := arrT (htw _ ac_boolean)
  obtain ⟨cJ, hJ1, hJ2⟩ := arrT (htw _ ac_long)
  obtain ⟨adK, adV, hvs, hve⟩ := vk_Sof (args := #[Value.ref b]) (s := s) (N := 1) (tm := fun _ => .string "IndentReader" 320) (len := [25]) (byt := [mkBy]) (A := Sb s.heap.size) (fun i hi => by rw [show i = 0 by omega]; decide) (fun i hi => hg _ (by decide +kernel)) (fun i hi => hg _ (by decide +kernel)) (fun i hi => hg _ (by decide +kernel)) (fun i hi => by rw [show i = 0 by omega]; exact hg _ (by decide +kernel)) (fun i hi j hj => by
    rw [show i = 0 by omega] at hj ⊢
    have hj : j < 25 := hj
    rcases (show j = 0 ∨ j = 1 ∨ j = 2 ∨ j = 3 ∨ j = 4 ∨ j = 5 ∨ j = 6 ∨ j = 7 ∨ j = 8 ∨ j = 9 ∨ j = 10 ∨ j = 11 ∨ j = 12 ∨ j = 13 ∨ j = 14 ∨ j = 15 ∨ j = 16 ∨ j = 17 ∨ j = 18 ∨ j = 19 ∨ j = 20 ∨ j = 21 ∨ j = 22 ∨ j = 23 ∨ j = 24 by omega) with rfl | rfl | rfl | rfl | rfl | rfl | rfl | rfl | rfl | rfl | rfl | rfl | rfl | rfl | rfl | rfl | rfl | rfl | rfl | rfl | rfl | rfl | rfl | rfl | rfl <;> exact hg _ (by decide +kernel)) (fun i j hi hj h => absurd (show i = j by omega) h) hSb
  obtain ⟨tA, t0, t1, t2, t3, t10, t11⟩ : ∃ tA : Nat → ClassId, tA 0 = cI ∧ tA 1 = cB ∧ tA 2 = cZ ∧ tA 3 = cJ ∧ tA 10 = adK 0 ∧ tA 11 = adV 0 := ⟨fun k => if k = 0 then cI else if k = 1 then cB else if k = 2 then cZ else if k = 3 then cJ else if k = 10 then adK 0 else adV 0, rfl, rfl, rfl, rfl, rfl, rfl⟩
  have hK : va_K (dC, dI) vwCl (tyA tA) s := by
    refine ⟨hKc, fun k q h => ?_⟩
    unfold tyA at h
    rw [t0, t1, t2, t3] at h
    match k, h with
    | 0, h => cases h; exact ⟨hI1, hI2⟩
    | 1, h => cases h; exact ⟨hB1, hB2⟩
    | 2, h => cases h; exact ⟨hZ1, hZ2⟩
    | 3, h => cases h; exact ⟨hJ1, hJ2⟩
    | k + 4, h => simp at h
  have hN : Nst s := fun w hw => by
    have h1 : w ∈ lw_tbl := (List.mem_filter.mp hw).1
    have h2 : isNest w = true := (List.mem_filter.mp hw).2
    have h3 := hts w h1
    cases w <;> simp only [isNest] at h2 <;> first | exact va_Nw.of rfl h3 | exact absurd h2 (by decide)
  have hSK : SK tA s.heap.size s s.heap := by
    refine ⟨?_, ?_, va_Zof (htt _ w_z) (htt _ w_zi) (va_eqi (hg _ (by decide +kernel))) hSb⟩
    · rw [t10, t11]
      exact ⟨fun i hi => by have := hvs.1 0 (by decide); rw [show i = 0 by omega]; exact this, fun i j hi hj _ => by omega⟩
    · rw [t10]
      exact vk_R.of (htt _ w_sr) (hve 0 (by decide))
  have hTK : TK (dC, dI) tA s.heap.size s := ⟨hK, hN, hSK⟩
  have hl := lv_entry ([.ref b]) (n := 4) (Nat.le_of_ble_eq_true rfl)
  rw [lg_entry_eq]
  generalize (lg_sl ([.ref b]) ++ List.replicate (4 - (lg_sl ([.ref b])).length) Slot.unset).toArray = ls at hl ⊢
  have hl : lv_has ls 4 [(0, .ref b)] := hl
  exact law_go (D := (dC, dI)) (tA := tA) (b := s.heap.size) hL ⟨hx, hb, hml, hown, htw, hTK, fun k _ => Nat.le_add_right _ _, hlocks, fun q h => h⟩ ⟨hx, hb, hml, hown, htw, hTK, fun k _ => Nat.le_add_right _ _, hlocks, fun q h => h⟩ hX hbl rfl hr hlocks hl
