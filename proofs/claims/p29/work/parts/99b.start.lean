/-! THE START: what the premises give -/
theorem sj_K_known {ci : Nat} {C : String} {T : u_T} {N : Nat} {ty0 : Nat → FieldType} {s : State} {args : Array Value} (hk : sj_K ci C T N ty0) (hts : ∀ w ∈ sj_GT, w.before args s = true) (hi : Cond.instantiable C N ∈ sj_GT) : ∃ (cC : ClassId) (iS : Nat → Nat), u_Kn s C T N cC iS := u_known hts hk.2.2.2.1 (hts _ hi)
theorem lw_arrI {args : Array Value} {s : State} (h : (Cond.arrayClass .int).before args s = true) : ∃ cA : ClassId, ArrOfT s cA .int ∧ va_RA s cA .int := by
  obtain ⟨c, k, comp, h1, h2, h3⟩ := Cond.arrayClass_spec h
  exact ⟨c, fun n z => ⟨fun k h => (by cases h), k, h2, comp, h3⟩, h1⟩
theorem lw_arrO {args : Array Value} {s : State} {C : String} (h : (Cond.arrayOver (.object C)).before args s = true) : ∃ cA : ClassId, ArrOfT s cA (.object C) ∧ va_RA s cA (.object C) := by
  obtain ⟨comp, c, k, h1, -, h2, h3, h4⟩ := Cond.arrayOver_spec h
  exact ⟨c, fun n z => ⟨fun k h => (by cases h), k, h2, comp, h3⟩, k, comp, h2, h3, h1, h4⟩
theorem lw_world {args : Array Value} {s : State} (hts : ∀ w ∈ lw_tbl, w.before args s = true) : ∃ (D : va_G) (cy : Nat → ClassId), va_K D vwCl (sj_tys cy) s := by
  have hg : ∀ w ∈ sj_GT, w.before args s = true := fun w hw => hts w (lt_all w hw)
  obtain ⟨c0, i0, h0⟩ := sj_K_known kk_X0 hg (wr_1 _ (List.mem_of_getElem? (i := 19) (by decide +kernel)))
  obtain ⟨c1, i1, h1⟩ := sj_K_known kk_X1 hg (wr_3 _ (List.mem_of_getElem? (i := 4) (by decide +kernel)))
  obtain ⟨c2, i2, h2⟩ := sj_K_known kk_X2 hg (wr_2 _ (List.mem_of_getElem? (i := 4) (by decide +kernel)))
  obtain ⟨c3, i3, h3⟩ := sj_K_known kk_X3 hg (wr_2 _ (List.mem_of_getElem? (i := 21) (by decide +kernel)))
  obtain ⟨c4, i4, h4⟩ := sj_K_known kk_X4 hg (wr_1 _ (List.mem_of_getElem? (i := 15) (by decide +kernel)))
  obtain ⟨c5, i5, h5⟩ := sj_K_known kk_X5 hg (wr_1 _ (List.mem_of_getElem? (i := 11) (by decide +kernel)))
  obtain ⟨c6, i6, h6⟩ := sj_K_known kk_X6 hg (wr_1 _ (List.mem_of_getElem? (i := 1) (by decide +kernel)))
  obtain ⟨a0, q0⟩ := lw_arrI (hts _ lt_AC0)
  obtain ⟨a1, q1⟩ := lw_arrO (hts _ lt_AO1)
  obtain ⟨a2, q2⟩ := lw_arrO (hts _ lt_AO2)
  refine ⟨(fun k => [c0, c1, c2, c3, c4, c5, c6].getD k c0, fun k => [i0, i1, i2, i3, i4, i5, i6].getD k i0), fun k => [a0, a1, a2].getD k a0, fun k q hq => ?_, fun k q hq => ?_⟩
  · match k, hq with
    | 0, hq => cases hq; exact h0
    | 1, hq => cases hq; exact h1
    | 2, hq => cases hq; exact h2
    | 3, hq => cases hq; exact h3
    | 4, hq => cases hq; exact h4
    | 5, hq => cases hq; exact h5
    | 6, hq => cases hq; exact h6
    | k + 7, hq => simp [vwCl] at hq
  · match k, hq with
    | 0, hq => cases hq; exact q0
    | 1, hq => cases hq; exact q1
    | 2, hq => cases hq; exact q2
    | k + 3, hq => simp [sj_tys] at hq
abbrev lw_pre : Cond := Jvm.Cond.and given_1 narrow_1
theorem lw_p_f : Cond.arrayOf (.static "SlantOaths" "FIRST_SETTINGS" "[I") .int ∈ flatC lw_pre ∧ Cond.eq (.length (.static "SlantOaths" "FIRST_SETTINGS" "[I")) (.int 9) ∈ flatC lw_pre ∧ ∀ j, j < 9 → Cond.eq (.elem (.static "SlantOaths" "FIRST_SETTINGS" "[I") (.int (Int32.ofNat j))) (.int (sj_t1 j)) ∈ flatC lw_pre := by decide +kernel
theorem lw_p_m : Cond.arrayOf (.static "SlantOaths" "MOST_OF_SETTING" "[I") .int ∈ flatC lw_pre ∧ Cond.eq (.length (.static "SlantOaths" "MOST_OF_SETTING" "[I")) (.int 9) ∈ flatC lw_pre ∧ ∀ j, j < 9 → Cond.eq (.elem (.static "SlantOaths" "MOST_OF_SETTING" "[I") (.int (Int32.ofNat j))) (.int (sj_t2 j)) ∈ flatC lw_pre := by decide +kernel
theorem lw_p_u : Cond.isRef (.static Bundle.tN "UNASSIGNED_STACK" Bundle.steD) ∈ flatC lw_pre ∧ Cond.isRef (.static Bundle.tN "SUPPRESSED_SENTINEL" Bundle.listD) ∈ flatC lw_pre := by decide +kernel
theorem lw_p_n : Cond.not (.castable "java/lang/IllegalStateException" "java/lang/IllegalArgumentException") ∈ flatC lw_pre ∧ Cond.not (.castable "java/lang/IllegalArgumentException" "java/lang/IndexOutOfBoundsException") ∈ flatC lw_pre ∧ Cond.not (.castable "java/lang/IllegalStateException" "java/lang/IndexOutOfBoundsException") ∈ flatC lw_pre := by decide +kernel
theorem lw_p_s : ∀ t ∈ sj_txl, Cond.exactly (.string RX6 t.1) "java/lang/String" ∈ flatC lw_pre := by decide +kernel
theorem lw_N3 {args : Array Value} {s : State} (h : lw_pre.before args s = true) : sj_N3 s := by
  have hq := flat_of_before _ h
  exact ⟨va_Nc.of (hq _ lw_p_n.1), va_Nc.of (hq _ lw_p_n.2.1), va_Nc.of (hq _ lw_p_n.2.2)⟩
theorem lw_row {args : Array Value} {s : State} {A : Nat → Prop} (hts : ∀ w ∈ lw_tbl, w.before args s = true) (h : lw_pre.before args s = true) (hA : ∀ a : Nat, a < s.heap.size → ¬ A a) : sj_ZS A s s.heap := by
  have hq := flat_of_before _ h
  obtain ⟨t1, e1, z1⟩ := va_Tof (tm := .static "SlantOaths" "FIRST_SETTINGS" "[I") (ty := .int) (N := 9) (f := fun j => .int (sj_t1 j)) (A := A) (by decide) (hq _ lw_p_f.1) (va_eqt (hq _ lw_p_f.2.1)) (fun j hj => va_eqt (hq _ (lw_p_f.2.2 j hj))) hA
  obtain ⟨t2, e2, z2⟩ := va_Tof (tm := .static "SlantOaths" "MOST_OF_SETTING" "[I") (ty := .int) (N := 9) (f := fun j => .int (sj_t2 j)) (A := A) (by decide) (hq _ lw_p_m.1) (va_eqt (hq _ lw_p_m.2.1)) (fun j hj => va_eqt (hq _ (lw_p_m.2.2 j hj))) hA
  exact ⟨t1, t2, va_Zof (hts _ lt_LS0) (hts _ lt_IN0) e1 hA, z1, va_Zof (hts _ lt_LS1) (hts _ lt_IN0) e2 hA, z2⟩
theorem lw_Am {args : Array Value} {s : State} {A : Nat → Prop} (hts : ∀ w ∈ lw_tbl, w.before args s = true) (h : lw_pre.before args s = true) (hA : ∀ a : Nat, a < s.heap.size → ¬ A a) : sj_Am A s s.heap := by
  have hq := flat_of_before _ h
  refine ⟨fun w hw => ?_, lw_row hts h hA, fun w hw => ?_, ⟨va_AO.of (hts _ lt_AO1), va_AO.of (hts _ lt_AO2)⟩, fun t ht => ?_, vx_Zqof (hts _ lt_LS2) (hts _ lt_IN1) (hq _ lw_p_u.1) hA, vx_Zqof (hts _ lt_LS3) (hts _ lt_IN1) (hq _ lw_p_u.2) hA, lw_N3 h⟩
  · have h1 := List.all_eq_true.mp sj_NWl_ok w hw
    have h2 := hts w (lt_NW w hw)
    cases w with
    | fieldLinkNest a b c d e f => exact va_Nw.of rfl h2
    | methodLinkNest a b c d => exact va_Nw.of rfl h2
    | _ => simp [sj_nest] at h1
  · have h1 := List.all_eq_true.mp sj_XWl_ok w hw
    have h2 := hts w (lt_XW w hw)
    cases w with
    | declares y => exact va_Nw.of (w := .declares y) rfl h2
    | castable a b => exact va_Nw.of (w := .castable a b) rfl h2
    | _ => simp [sj_dc] at h1
  · have h1 := hts _ (lt_TX _ (List.mem_map.mpr ⟨t, ht, rfl⟩))
    obtain ⟨a, c, cA, kA, q1, -⟩ := Cond.exactly_spec (args := args) (first := s) (o := none) (s := s) (idx := []) (t := .string RX6 t.1) (cls := "java/lang/String") (hq _ (lw_p_s t ht))
    exact ⟨a, vk_R.of h1 q1⟩
set_option maxRecDepth 100000 in
/-- THE LAW, from its entry -/
theorem whole_start {p : Program} {e : Env} {s : State} {m : MethodId} {below : List Frame} {meth : Method} {c : Code} (l : Launch) (hflags : l.flags = flags0) {b L : Nat} {xs : Nat → Int32} (hL : L ≤ 260) (C0 : lw_At p s m meth c b L xs) : W p l e room_1 s m #[Value.ref b] below meth c s.heap [] 0 0 (lw_Z below #[Value.ref b] s) (entryFrame m ([Value.ref b] : List Value).toArray 18) := by
  obtain ⟨hx, hb, hr, hml, hown, hts, hX, hbl, hlocks, hgv⟩ := id C0
  obtain ⟨D, cy, hK⟩ := lw_world hts
  have hA : ∀ a : Nat, a < s.heap.size → ¬ (fun q : Nat => s.heap.size ≤ q) a := fun a ha => Nat.not_le.mpr ha
  have hG := lw_body (X := (p, l, e, room_1, s, m, #[Value.ref b], below, meth, c, D, cy, fun q : Nat => s.heap.size ≤ q, 18, lw_Z below #[Value.ref b] s)) (nm := meth.name) (b := b) (Lx := L) (xs := xs) ⟨hx, hb, ⟨hml, rfl⟩, hown, fun w hw => hts w (lt_all w hw), ⟨hlocks, hr, rfl⟩, hK, lw_Am hts hgv hA, fun _ h => h, rfl⟩ (by
    show l.stackTraces = false
    unfold Launch.stackTraces
    rw [hflags]
    decide) ⟨hX, hbl, hA b hbl⟩ hL ⟨rfl, rfl, rfl, hlocks, hr, fun _ h => h⟩
  rw [lg_entry_eq]
  refine hG s.heap [] _ ⟨[], fun k q h => by simp at h, ⟨fun i j p q h => by simp at h, fun k q h => by simp at h⟩, fun a ci h => by cases h⟩ va_S.rf ?_
  exact lv_entry ([.ref b]) (n := 18) (Nat.le_of_ble_eq_true rfl)
