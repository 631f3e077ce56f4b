/-! THE REFERENCE: its object, its rows, what its reading methods answer -/
def sj_mo (S : sj_St) (h : Nat) (b : Nat → Nat) : Prop := sj_kd S h = some 7 ∧ (sj_rf S h 1 = some (b 1) ∧ sj_kd S (b 1) = some 8 ∧ sj_il S (b 1) = 434) ∧ (sj_rf S h 2 = some (b 2) ∧ sj_kd S (b 2) = some 8 ∧ sj_il S (b 2) = 434) ∧ (sj_rf S h 3 = some (b 3) ∧ sj_kd S (b 3) = some 8 ∧ sj_il S (b 3) = 2604) ∧ (sj_rf S h 5 = some (b 5) ∧ sj_kd S (b 5) = some 8 ∧ sj_il S (b 5) = 434) ∧ (sj_rf S h 7 = some (b 7) ∧ sj_kd S (b 7) = some 8 ∧ sj_il S (b 7) = 60) ∧ (sj_rf S h 13 = some (b 13) ∧ sj_kd S (b 13) = some 8 ∧ sj_il S (b 13) = 40) ∧ (sj_rf S h 15 = some (b 15) ∧ sj_kd S (b 15) = some 8 ∧ sj_il S (b 15) = 8) ∧ ∀ i j, i < 16 → j < 16 → b i = b j → i = j
def sj_mm (S : sj_St) (h : Nat) (b : Nat → Nat) (m : Nat → Int32) : Prop := sj_mo S h b ∧ sj_ia S (b 1) = m
def sj_of (m : Nat → Int32) (i w : Nat) : Int32 := m (98 + 42 * i + w)
def sj_os (m : Nat → Int32) (i k w : Nat) : Int32 := m (98 + 42 * i + (2 + 5 * k + w))
def sj_oa (m : Nat → Int32) (k w : Nat) : Int32 := m (14 + 3 * k + w)
def sj_ns (m : Nat → Int32) (i : Nat) : Nat := (sj_of m i 1).toNatClampNeg
def sj_tot (m : Nat → Int32) (i w : Nat) : Int32 := sj_sum (fun k => sj_os m i k w) (sj_ns m i)
def sj_dv (a b : Int32) : Int32 := if a < 0 then -((-a + b - 1) / b) else a / b
/-- a sheet as it may be: 1 to 8 strokes, a mean height above 0 -/
def sj_shv (m : Nat → Int32) (i : Nat) : Prop := i < 8 ∧ sj_of m i 1 = nI (sj_ns m i) ∧ 1 ≤ sj_ns m i ∧ sj_ns m i ≤ 8 ∧ ¬ sj_tot m i 1 / nI (sj_ns m i) = 0
theorem sj_wi_lo {v a b : Int32} (h : v < a) : sj_wi v a b = false := by
  unfold sj_wi
  rw [decide_eq_false (Int32.not_le.mpr h), Bool.false_and]
theorem sj_wi_hi {v a b : Int32} (h : b < v) : sj_wi v a b = false := by
  unfold sj_wi
  rw [decide_eq_false (p := v ≤ b) (Int32.not_le.mpr h), Bool.and_false]
theorem sj_wi_in {v a b : Int32} (h1 : ¬ v < a) (h2 : ¬ b < v) : sj_wi v a b = true := by
  unfold sj_wi
  rw [decide_eq_true (Int32.not_lt.mp h1), decide_eq_true (Int32.not_lt.mp h2)]
  rfl
theorem sj_i98 (i w : Nat) : (98 : Int32) + 42 * nI i + nI w = nI (98 + 42 * i + w) := by
  rw [show (98 : Int32) = nI 98 from rfl, show (42 : Int32) = nI 42 from rfl, sj_nmul, nI_add, nI_add]
theorem sj_i14 (k w : Nat) : (14 : Int32) + 3 * nI k + nI w = nI (14 + 3 * k + w) := by
  rw [show (14 : Int32) = nI 14 from rfl, show (3 : Int32) = nI 3 from rfl, sj_nmul, nI_add, nI_add]
theorem sj_i2 (k w : Nat) : (2 : Int32) + 5 * nI k + nI w = nI (2 + 5 * k + w) := by
  rw [show (2 : Int32) = nI 2 from rfl, show (5 : Int32) = nI 5 from rfl, sj_nmul, nI_add, nI_add]
set_option maxRecDepth 100000 in
set_option maxHeartbeats 4000000 in
theorem ct_X7_within (l : Launch) (S : sj_St) (v a b : Int32) : sj_Ctr l mX7_within [.int v, .int a, .int b] S (sj_eq (some (.int (sj_bi (sj_wi v a b)))) S) := by
  refine sj_start ([some (.int v), some (.int a), some (.int b)]) (by decide +kernel) rfl rfl (fun X hX C hR => ?_)
  subst hX
  refine sj_iload_n C 1 rfl dX7_within_0 rfl rfl ?_
  refine sj_iload_n C 2 rfl dX7_within_1 rfl rfl ?_
  refine sj_icmp_lt C 14 5 rfl rfl dX7_within_2 (fun c_2 => ?_) (fun c_2 => ?_)
  · refine sj_iconstv C (0) 15 rfl dX7_within_14 rfl ?_
    refine sj_zret C hR rfl rfl rfl dX7_within_15 ?_
    refine ⟨congrArg (fun z => some (Value.int z)) ?_, rfl⟩
    rw [sj_wi_lo c_2]
    rfl
  · refine sj_iload_n C 6 rfl dX7_within_5 rfl rfl ?_
    refine sj_iload_n C 7 rfl dX7_within_6 rfl rfl ?_
    refine sj_icmp_gt C 14 10 rfl rfl dX7_within_7 (fun c_7 => ?_) (fun c_7 => ?_)
    · refine sj_iconstv C (0) 15 rfl dX7_within_14 rfl ?_
      refine sj_zret C hR rfl rfl rfl dX7_within_15 ?_
      refine ⟨congrArg (fun z => some (Value.int z)) ?_, rfl⟩
      rw [sj_wi_hi c_7]
      rfl
    · refine sj_iconstv C (1) 11 rfl dX7_within_10 rfl ?_
      refine sj_goto C 15 rfl dX7_within_11 ?_
      refine sj_zret C hR rfl rfl rfl dX7_within_15 ?_
      refine ⟨congrArg (fun z => some (Value.int z)) ?_, rfl⟩
      rw [sj_wi_in c_2 c_7]
      rfl
set_option maxRecDepth 100000 in
set_option maxHeartbeats 4000000 in
theorem ct_X7_sizeOf (l : Launch) (S : sj_St) (v : Int32) : sj_Ctr l mX7_sizeOf [.int v] S (sj_eq (some (.int (sj_sz v))) S) := by
  refine sj_start ([some (.int v)]) (by decide +kernel) rfl rfl (fun X hX C hR => ?_)
  subst hX
  refine sj_iload_n C 1 rfl dX7_sizeOf_0 rfl rfl ?_
  refine sj_if_ge C 9 4 rfl rfl dX7_sizeOf_1 (fun c_1 => ?_) (fun c_1 => ?_)
  · refine sj_iload_n C 10 rfl dX7_sizeOf_9 rfl rfl ?_
    refine sj_iret C hR rfl rfl dX7_sizeOf_10 ?_
    refine ⟨congrArg (fun z => some (Value.int z)) ?_, rfl⟩
    unfold sj_sz
    rw [if_neg (sj_nlt.mpr c_1)]
  · refine sj_iload_n C 5 rfl dX7_sizeOf_4 rfl rfl ?_
    refine sj_ineg C 6 rfl dX7_sizeOf_5 ?_
    refine sj_goto C 10 rfl dX7_sizeOf_6 ?_
    refine sj_iret C hR rfl rfl dX7_sizeOf_10 ?_
    refine ⟨congrArg (fun z => some (Value.int z)) ?_, rfl⟩
    unfold sj_sz
    rw [if_pos (sj_nle.mp c_1)]
set_option maxRecDepth 100000 in
set_option maxHeartbeats 4000000 in
theorem ct_X7_fails (l : Launch) {S : sj_St} {h : Nat} {b : Nat → Nat} {m : Nat → Int32} (hm : sj_mm S h b m) (v : Int32) : sj_Ctr l mX7_fails [.ref h, .int v] S (sj_eq (some (.int 0)) (sj_wFi S h 0 v)) := by
  refine sj_start ([some (.ref h), some (.int v)]) (by decide +kernel) rfl rfl (fun X hX C hR => ?_)
  subst hX
  have hm0 := hm
  obtain ⟨hm', em⟩ := hm0
  subst em
  obtain ⟨kd_h, ⟨rf_h_1, kd_a1, il_a1⟩, ⟨rf_h_2, kd_a2, il_a2⟩, ⟨rf_h_3, kd_a3, il_a3⟩, ⟨rf_h_5, kd_a5, il_a5⟩, ⟨rf_h_7, kd_a7, il_a7⟩, ⟨rf_h_13, kd_a13, il_a13⟩, ⟨rf_h_15, kd_a15, il_a15⟩, hinj⟩ := hm'
  refine sj_aload_n C 1 rfl dX7_fails_0 rfl rfl ?_
  refine sj_iload_n C 2 rfl dX7_fails_1 rfl rfl ?_
  refine sj_putI C 5 rfl fd_X7_31 dX7_fails_2 rfl rfl kd_h ?_
  refine sj_iconstv C (0) 6 rfl dX7_fails_5 rfl ?_
  refine sj_iret C hR rfl rfl dX7_fails_6 ?_
  exact ⟨rfl, rfl⟩
set_option maxRecDepth 100000 in
set_option maxHeartbeats 4000000 in
theorem ct_X7_thrown (l : Launch) {S : sj_St} {h : Nat} {b : Nat → Nat} {m : Nat → Int32} (hm : sj_mm S h b m) : sj_Ctr l mX7_thrown [.ref h] S (sj_eq (some (.int (sj_fi S h 0))) S) := by
  refine sj_start ([some (.ref h)]) (by decide +kernel) rfl rfl (fun X hX C hR => ?_)
  subst hX
  have hm0 := hm
  obtain ⟨hm', em⟩ := hm0
  subst em
  obtain ⟨kd_h, ⟨rf_h_1, kd_a1, il_a1⟩, ⟨rf_h_2, kd_a2, il_a2⟩, ⟨rf_h_3, kd_a3, il_a3⟩, ⟨rf_h_5, kd_a5, il_a5⟩, ⟨rf_h_7, kd_a7, il_a7⟩, ⟨rf_h_13, kd_a13, il_a13⟩, ⟨rf_h_15, kd_a15, il_a15⟩, hinj⟩ := hm'
  refine sj_aload_n C 1 rfl dX7_thrown_0 rfl rfl ?_
  refine sj_getI C 4 rfl fd_X7_31 dX7_thrown_1 kd_h ?_
  refine sj_iret C hR rfl rfl dX7_thrown_4 ?_
  exact ⟨rfl, rfl⟩
set_option maxRecDepth 100000 in
set_option maxHeartbeats 4000000 in
theorem ct_X7_isSheet (l : Launch) {S : sj_St} {h : Nat} {b : Nat → Nat} {m : Nat → Int32} (hm : sj_mm S h b m) (v : Int32) : sj_Ctr l mX7_isSheet [.ref h, .int v] S (sj_eq (some (.int (sj_bi (sj_wi v 0 (m 9 - 1))))) S) := by
  refine sj_start ([some (.ref h), some (.int v)]) (by decide +kernel) rfl rfl (fun X hX C hR => ?_)
  subst hX
  have hm0 := hm
  obtain ⟨hm', em⟩ := hm0
  subst em
  obtain ⟨kd_h, ⟨rf_h_1, kd_a1, il_a1⟩, ⟨rf_h_2, kd_a2, il_a2⟩, ⟨rf_h_3, kd_a3, il_a3⟩, ⟨rf_h_5, kd_a5, il_a5⟩, ⟨rf_h_7, kd_a7, il_a7⟩, ⟨rf_h_13, kd_a13, il_a13⟩, ⟨rf_h_15, kd_a15, il_a15⟩, hinj⟩ := hm'
  refine sj_iload_n C 1 rfl dX7_isSheet_0 rfl rfl ?_
  refine sj_iconstv C (0) 2 rfl dX7_isSheet_1 rfl ?_
  refine sj_aload_n C 3 rfl dX7_isSheet_2 rfl rfl ?_
  refine sj_getr C 6 rfl fd_X7_7 dX7_isSheet_3 kd_h rf_h_1 ?_
  refine sj_bipush C (9) 8 rfl dX7_isSheet_6 (by decide) ?_
  refine sj_iald C 9 rfl dX7_isSheet_8 kd_a1 (by show vp_in (nI 9) (sj_il S (b 1)); rw [il_a1]; exact vp_in_nI (by omega) (by omega)) ?_
  refine sj_iconstv C (1) 10 rfl dX7_isSheet_9 rfl ?_
  refine sj_isub C 11 rfl dX7_isSheet_10 ?_
  refine sj_callSd C 14 rfl dX7_isSheet_11 cv_X7_35 rfl (ct_X7_within _ _ _ _ _) rfl rfl rfl ⟨rfl, rfl⟩ ?_
  refine sj_zret C hR rfl (sj_binar _) rfl dX7_isSheet_14 ?_
  exact ⟨rfl, rfl⟩
set_option maxRecDepth 100000 in
set_option maxHeartbeats 4000000 in
theorem ct_X7_of (l : Launch) {S : sj_St} {h : Nat} {b : Nat → Nat} {m : Nat → Int32} (hm : sj_mm S h b m) (i w : Nat) (hi : i < 8) (hw : w < 42) : sj_Ctr l mX7_of [.ref h, .int (nI i), .int (nI w)] S (sj_eq (some (.int (sj_of m i w))) S) := by
  refine sj_start ([some (.ref h), some (.int (nI i)), some (.int (nI w))]) (by decide +kernel) rfl rfl (fun X hX C hR => ?_)
  subst hX
  have hm0 := hm
  obtain ⟨hm', em⟩ := hm0
  subst em
  obtain ⟨kd_h, ⟨rf_h_1, kd_a1, il_a1⟩, ⟨rf_h_2, kd_a2, il_a2⟩, ⟨rf_h_3, kd_a3, il_a3⟩, ⟨rf_h_5, kd_a5, il_a5⟩, ⟨rf_h_7, kd_a7, il_a7⟩, ⟨rf_h_13, kd_a13, il_a13⟩, ⟨rf_h_15, kd_a15, il_a15⟩, hinj⟩ := hm'
  refine sj_aload_n C 1 rfl dX7_of_0 rfl rfl ?_
  refine sj_getr C 4 rfl fd_X7_7 dX7_of_1 kd_h rf_h_1 ?_
  refine sj_bipush C (98) 6 rfl dX7_of_4 (by decide) ?_
  refine sj_bipush C (42) 8 rfl dX7_of_6 (by decide) ?_
  refine sj_iload_n C 9 rfl dX7_of_8 rfl rfl ?_
  refine sj_imul C 10 rfl dX7_of_9 ?_
  refine sj_iadd C 11 rfl dX7_of_10 ?_
  refine sj_iload_n C 12 rfl dX7_of_11 rfl rfl ?_
  refine sj_iadd C 13 rfl dX7_of_12 ?_
  rw [sj_i98]
  refine sj_iald C 14 rfl dX7_of_13 kd_a1 (by show vp_in _ (sj_il S (b 1)); rw [il_a1]; exact vp_in_nI (by omega) (by omega)) ?_
  refine sj_iret C hR rfl rfl dX7_of_14 ?_
  refine ⟨congrArg (fun z => some (Value.int z)) ?_, rfl⟩
  unfold sj_of
  rw [nI_clamp (by omega)]
set_option maxRecDepth 100000 in
set_option maxHeartbeats 4000000 in
theorem ct_X7_ofStroke (l : Launch) {S : sj_St} {h : Nat} {b : Nat → Nat} {m : Nat → Int32} (hm : sj_mm S h b m) (i k w : Nat) (hi : i < 8) (hk : k < 8) (hw : w < 5 := by omega) : sj_Ctr l mX7_ofStroke [.ref h, .int (nI i), .int (nI k), .int (nI w)] S (sj_eq (some (.int (sj_os m i k w))) S) := by
  refine sj_start ([some (.ref h), some (.int (nI i)), some (.int (nI k)), some (.int (nI w))]) (by decide +kernel) rfl rfl (fun X hX C hR => ?_)
  subst hX
  have hm0 := hm
  obtain ⟨hm', em⟩ := hm0
  subst em
  obtain ⟨kd_h, ⟨rf_h_1, kd_a1, il_a1⟩, ⟨rf_h_2, kd_a2, il_a2⟩, ⟨rf_h_3, kd_a3, il_a3⟩, ⟨rf_h_5, kd_a5, il_a5⟩, ⟨rf_h_7, kd_a7, il_a7⟩, ⟨rf_h_13, kd_a13, il_a13⟩, ⟨rf_h_15, kd_a15, il_a15⟩, hinj⟩ := hm'
  refine sj_aload_n C 1 rfl dX7_ofStroke_0 rfl rfl ?_
  refine sj_iload_n C 2 rfl dX7_ofStroke_1 rfl rfl ?_
  refine sj_iconstv C (2) 3 rfl dX7_ofStroke_2 rfl ?_
  refine sj_iconstv C (5) 4 rfl dX7_ofStroke_3 rfl ?_
  refine sj_iload_n C 5 rfl dX7_ofStroke_4 rfl rfl ?_
  refine sj_imul C 6 rfl dX7_ofStroke_5 ?_
  refine sj_iadd C 7 rfl dX7_ofStroke_6 ?_
  refine sj_iload_n C 8 rfl dX7_ofStroke_7 rfl rfl ?_
  refine sj_iadd C 9 rfl dX7_ofStroke_8 ?_
  rw [sj_i2]
  refine sj_callVd C 12 rfl dX7_ofStroke_9 cv_X7_39 rfl (ct_X7_of _ hm i (2 + 5 * k + w) hi (by omega)) rfl rfl rfl ⟨_, _, kd_h, rfl, rfl, by decide⟩ ⟨rfl, rfl⟩ ?_
  refine sj_iret C hR rfl rfl dX7_ofStroke_12 ?_
  exact ⟨rfl, rfl⟩
set_option maxRecDepth 100000 in
set_option maxHeartbeats 4000000 in
theorem ct_X7_ofOath (l : Launch) {S : sj_St} {h : Nat} {b : Nat → Nat} {m : Nat → Int32} (hm : sj_mm S h b m) (k w : Nat) (hk : k < 28) (hw : w < 3 := by omega) : sj_Ctr l mX7_ofOath [.ref h, .int (nI k), .int (nI w)] S (sj_eq (some (.int (sj_oa m k w))) S) := by
  refine sj_start ([some (.ref h), some (.int (nI k)), some (.int (nI w))]) (by decide +kernel) rfl rfl (fun X hX C hR => ?_)
  subst hX
  have hm0 := hm
  obtain ⟨hm', em⟩ := hm0
  subst em
  obtain ⟨kd_h, ⟨rf_h_1, kd_a1, il_a1⟩, ⟨rf_h_2, kd_a2, il_a2⟩, ⟨rf_h_3, kd_a3, il_a3⟩, ⟨rf_h_5, kd_a5, il_a5⟩, ⟨rf_h_7, kd_a7, il_a7⟩, ⟨rf_h_13, kd_a13, il_a13⟩, ⟨rf_h_15, kd_a15, il_a15⟩, hinj⟩ := hm'
  refine sj_aload_n C 1 rfl dX7_ofOath_0 rfl rfl ?_
  refine sj_getr C 4 rfl fd_X7_7 dX7_ofOath_1 kd_h rf_h_1 ?_
  refine sj_bipush C (14) 6 rfl dX7_ofOath_4 (by decide) ?_
  refine sj_iconstv C (3) 7 rfl dX7_ofOath_6 rfl ?_
  refine sj_iload_n C 8 rfl dX7_ofOath_7 rfl rfl ?_
  refine sj_imul C 9 rfl dX7_ofOath_8 ?_
  refine sj_iadd C 10 rfl dX7_ofOath_9 ?_
  refine sj_iload_n C 11 rfl dX7_ofOath_10 rfl rfl ?_
  refine sj_iadd C 12 rfl dX7_ofOath_11 ?_
  rw [sj_i14]
  refine sj_iald C 13 rfl dX7_ofOath_12 kd_a1 (by show vp_in _ (sj_il S (b 1)); rw [il_a1]; exact vp_in_nI (by omega) (by omega)) ?_
  refine sj_iret C hR rfl rfl dX7_ofOath_13 ?_
  refine ⟨congrArg (fun z => some (Value.int z)) ?_, rfl⟩
  unfold sj_oa
  rw [nI_clamp (by omega)]
set_option maxRecDepth 100000 in
set_option maxHeartbeats 4000000 in
theorem ct_X7_divided (l : Launch) (S : sj_St) (a b : Int32) (hb : ¬ b = 0) : sj_Ctr l mX7_divided [.int a, .int b] S (sj_eq (some (.int (sj_dv a b))) S) := by
  refine sj_start ([some (.int a), some (.int b)]) (by decide +kernel) rfl rfl (fun X hX C hR => ?_)
  subst hX
  refine sj_iload_n C 1 rfl dX7_divided_0 rfl rfl ?_
  refine sj_if_lt C 10 4 rfl rfl dX7_divided_1 (fun c_1 => ?_) (fun c_1 => ?_)
  · refine sj_iload_n C 11 rfl dX7_divided_10 rfl rfl ?_
    refine sj_ineg C 12 rfl dX7_divided_11 ?_
    refine sj_iload_n C 13 rfl dX7_divided_12 rfl rfl ?_
    refine sj_iadd C 14 rfl dX7_divided_13 ?_
    refine sj_iconstv C (1) 15 rfl dX7_divided_14 rfl ?_
    refine sj_isub C 16 rfl dX7_divided_15 ?_
    refine sj_iload_n C 17 rfl dX7_divided_16 rfl rfl ?_
    refine sj_idiv C 18 rfl dX7_divided_17 hb ?_
    refine sj_ineg C 19 rfl dX7_divided_18 ?_
    refine sj_iret C hR rfl rfl dX7_divided_19 ?_
    refine ⟨congrArg (fun z => some (Value.int z)) ?_, rfl⟩
    unfold sj_dv
    rw [if_pos c_1]
  · refine sj_iload_n C 5 rfl dX7_divided_4 rfl rfl ?_
    refine sj_iload_n C 6 rfl dX7_divided_5 rfl rfl ?_
    refine sj_idiv C 7 rfl dX7_divided_6 hb ?_
    refine sj_goto C 19 rfl dX7_divided_7 ?_
    refine sj_iret C hR rfl rfl dX7_divided_19 ?_
    refine ⟨congrArg (fun z => some (Value.int z)) ?_, rfl⟩
    unfold sj_dv
    rw [if_neg c_1]
set_option maxRecDepth 100000 in
set_option maxHeartbeats 4000000 in
theorem ct_X7_sumOf (l : Launch) {S : sj_St} {h : Nat} {b : Nat → Nat} {m : Nat → Int32} (hm : sj_mm S h b m) (i w : Nat) (hi : i < 8) (hw : w < 5) (hn : sj_of m i 1 = nI (sj_ns m i)) (hn8 : sj_ns m i ≤ 8) : sj_Ctr l mX7_sumOf [.ref h, .int (nI i), .int (nI w)] S (sj_eq (some (.int (sj_tot m i w))) S) := by
  refine sj_start ([some (.ref h), some (.int (nI i)), some (.int (nI w)), none, none]) (by decide +kernel) rfl rfl (fun X hX C hR => ?_)
  subst hX
  have hm0 := hm
  obtain ⟨hm', em⟩ := hm0
  subst em
  obtain ⟨kd_h, ⟨rf_h_1, kd_a1, il_a1⟩, ⟨rf_h_2, kd_a2, il_a2⟩, ⟨rf_h_3, kd_a3, il_a3⟩, ⟨rf_h_5, kd_a5, il_a5⟩, ⟨rf_h_7, kd_a7, il_a7⟩, ⟨rf_h_13, kd_a13, il_a13⟩, ⟨rf_h_15, kd_a15, il_a15⟩, hinj⟩ := hm'
  have cut_5 : sj_G X S 0 0 [some (.ref h), some (.int (nI i)), some (.int (nI w)), some (.int (sj_sum (fun k => sj_os (sj_ia S (b 1)) i k w) 0)), some (.int (nI 0))] 5 [] := by
    refine sj_down (fun k => sj_G X S 0 0 [some (.ref h), some (.int (nI i)), some (.int (nI w)), some (.int (sj_sum (fun k => sj_os (sj_ia S (b 1)) i k w) k)), some (.int (nI k))] 5 []) (sj_ns (sj_ia S (b 1)) i) (fun k hk ih => ?_)
    refine sj_iload C 7 rfl dX7_sumOf_5 rfl ?_
    refine sj_aload_n C 8 rfl dX7_sumOf_7 rfl rfl ?_
    refine sj_iload_n C 9 rfl dX7_sumOf_8 rfl rfl ?_
    refine sj_iconstv C (1) 10 rfl dX7_sumOf_9 rfl ?_
    refine sj_callVd C 13 rfl dX7_sumOf_10 cv_X7_39 rfl (ct_X7_of _ hm i 1 hi (by omega)) rfl rfl rfl ⟨_, _, kd_h, rfl, rfl, by decide⟩ ⟨rfl, rfl⟩ ?_
    refine sj_icmp_ge C 33 16 rfl rfl dX7_sumOf_13 (fun c_13 => ?_) (fun c_13 => ?_)
    · refine sj_iload_n C 34 rfl dX7_sumOf_33 rfl rfl ?_
      refine sj_iret C hR rfl rfl dX7_sumOf_34 ?_
      refine ⟨congrArg (fun z => some (Value.int z)) ?_, rfl⟩
      have hke : k = sj_ns (sj_ia S (b 1)) i := by
        have h9 : ¬ k < sj_ns (sj_ia S (b 1)) i := fun h8 => nI_ge h8 (by omega) (by rw [← hn]; exact c_13)
        omega
      subst hke
      rfl
    · have hlt : k < sj_ns (sj_ia S (b 1)) i := Nat.not_le.mp fun h9 => c_13 (by rw [hn]; exact nI_le h9 (by omega))
      refine sj_iload_n C 17 rfl dX7_sumOf_16 rfl rfl ?_
      refine sj_aload_n C 18 rfl dX7_sumOf_17 rfl rfl ?_
      refine sj_iload_n C 19 rfl dX7_sumOf_18 rfl rfl ?_
      refine sj_iload C 21 rfl dX7_sumOf_19 rfl ?_
      refine sj_iload_n C 22 rfl dX7_sumOf_21 rfl rfl ?_
      refine sj_callVd C 25 rfl dX7_sumOf_22 cv_X7_57 rfl (ct_X7_ofStroke _ hm i k w hi (by omega) hw) rfl rfl rfl ⟨_, _, kd_h, rfl, rfl, by decide⟩ ⟨rfl, rfl⟩ ?_
      refine sj_iadd C 26 rfl dX7_sumOf_25 ?_
      refine sj_istore_n_3 C 27 rfl dX7_sumOf_26 rfl rfl ?_
      refine sj_iinc_4 C 30 rfl dX7_sumOf_27 rfl rfl ?_
      refine sj_goto C 5 rfl dX7_sumOf_30 ?_
      rw [sj_n1]
      exact ih hlt
  refine sj_iconstv C (0) 1 rfl dX7_sumOf_0 rfl ?_
  refine sj_istore_n_3 C 2 rfl dX7_sumOf_1 rfl rfl ?_
  refine sj_iconstv C (0) 3 rfl dX7_sumOf_2 rfl ?_
  refine sj_istore_4 C 5 rfl dX7_sumOf_3 rfl rfl ?_
  exact cut_5
def sj_mn (f : Nat → Int32) : Nat → Int32
  | 0 => f 0
  | k + 1 => if f (k + 1) < sj_mn f k then f (k + 1) else sj_mn f k
def sj_mx (f : Nat → Int32) : Nat → Int32
  | 0 => f 0
  | k + 1 => if sj_mx f k < f (k + 1) then f (k + 1) else sj_mx f k
def sj_spr (m : Nat → Int32) (i : Nat) : Int32 := sj_mx (fun k => sj_os m i k 0) (sj_ns m i - 1) - sj_mn (fun k => sj_os m i k 0) (sj_ns m i - 1)
def sj_lh (m : Nat → Int32) (i : Nat) : Int32 := if sj_tot m i 2 = 0 then 0 else sj_sum (fun k => sj_os m i k 2 * sj_os m i k 1) (sj_ns m i) / sj_tot m i 2 * 10 / (sj_tot m i 1 / nI (sj_ns m i))
def sj_ur (m : Nat → Int32) (i : Nat) : Int32 := if sj_ns m i = 1 then 0 else sj_sum (fun k => sj_sz (sj_os m i (k + 1) 3 - sj_os m i k 3)) (sj_ns m i - 1) * 10 / (nI (sj_ns m i) - 1)
def sj_mk (m : Nat → Int32) (i : Nat) : Nat → Int32
  | 0 => sj_dv (sj_tot m i 0) (nI (sj_ns m i))
  | 1 => sj_spr m i
  | 2 => sj_lh m i
  | 3 => 100 * sj_tot m i 2 / nI (sj_ns m i)
  | 4 => 10 * sj_tot m i 3 / nI (sj_ns m i)
  | _ => sj_ur m i
set_option maxRecDepth 100000 in
set_option maxHeartbeats 4000000 in
theorem ct_X7_spread (l : Launch) {S : sj_St} {h : Nat} {b : Nat → Nat} {m : Nat → Int32} (hm : sj_mm S h b m) (i : Nat) (hv : sj_shv m i) : sj_Ctr l mX7_spread [.ref h, .int (nI i)] S (sj_eq (some (.int (sj_spr m i))) S) := by
  refine sj_start ([some (.ref h), some (.int (nI i)), none, none, none, none]) (by decide +kernel) rfl rfl (fun X hX C hR => ?_)
  subst hX
  have hm0 := hm
  obtain ⟨hm', em⟩ := hm0
  subst em
  obtain ⟨kd_h, ⟨rf_h_1, kd_a1, il_a1⟩, ⟨rf_h_2, kd_a2, il_a2⟩, ⟨rf_h_3, kd_a3, il_a3⟩, ⟨rf_h_5, kd_a5, il_a5⟩, ⟨rf_h_7, kd_a7, il_a7⟩, ⟨rf_h_13, kd_a13, il_a13⟩, ⟨rf_h_15, kd_a15, il_a15⟩, hinj⟩ := hm'
  obtain ⟨hi, hn, hn1, hn8, hh⟩ := id hv
  have cut_13 : sj_G X S 0 0 [some (.ref h), some (.int (nI i)), some (.int (sj_mn (fun k => sj_os (sj_ia S (b 1)) i k 0) 0)), some (.int (sj_mx (fun k => sj_os (sj_ia S (b 1)) i k 0) 0)), some (.int (nI 1)), none] 13 [] := by
    refine sj_down (fun k => ∀ o, sj_G X S 0 0 [some (.ref h), some (.int (nI i)), some (.int (sj_mn (fun k => sj_os (sj_ia S (b 1)) i k 0) k)), some (.int (sj_mx (fun k => sj_os (sj_ia S (b 1)) i k 0) k)), some (.int (nI (k + 1))), o] 13 []) (sj_ns (sj_ia S (b 1)) i - 1) (fun k hk ih => ?_) none
    intro o
    refine sj_iload C 15 rfl dX7_spread_13 rfl ?_
    refine sj_aload_n C 16 rfl dX7_spread_15 rfl rfl ?_
    refine sj_iload_n C 17 rfl dX7_spread_16 rfl rfl ?_
    refine sj_iconstv C (1) 18 rfl dX7_spread_17 rfl ?_
    refine sj_callVd C 21 rfl dX7_spread_18 cv_X7_39 rfl (ct_X7_of _ hm i 1 hi (by omega)) rfl rfl rfl ⟨_, _, kd_h, rfl, rfl, by decide⟩ ⟨rfl, rfl⟩ ?_
    refine sj_icmp_ge C 66 24 rfl rfl dX7_spread_21 (fun c_21 => ?_) (fun c_21 => ?_)
    · refine sj_iload_n C 67 rfl dX7_spread_66 rfl rfl ?_
      refine sj_iload_n C 68 rfl dX7_spread_67 rfl rfl ?_
      refine sj_isub C 69 rfl dX7_spread_68 ?_
      refine sj_iret C hR rfl rfl dX7_spread_69 ?_
      refine ⟨congrArg (fun z => some (Value.int z)) ?_, rfl⟩
      have hke : k = sj_ns (sj_ia S (b 1)) i - 1 := by
        have h9 : ¬ k < sj_ns (sj_ia S (b 1)) i - 1 := fun h8 => nI_ge (a := k + 1) (b := sj_ns (sj_ia S (b 1)) i) (by omega) (by omega) (by rw [← hn]; exact c_21)
        omega
      subst hke
      rfl
    · have hlt : k < sj_ns (sj_ia S (b 1)) i - 1 := Nat.not_le.mp fun h9 => c_21 (by rw [hn]; exact nI_le (by omega) (by omega))
      refine sj_aload_n C 25 rfl dX7_spread_24 rfl rfl ?_
      refine sj_iload_n C 26 rfl dX7_spread_25 rfl rfl ?_
      refine sj_iload C 28 rfl dX7_spread_26 rfl ?_
      refine sj_iconstv C (0) 29 rfl dX7_spread_28 rfl ?_
      refine sj_callVd C 32 rfl dX7_spread_29 cv_X7_57 rfl (ct_X7_ofStroke _ hm i (k + 1) 0 hi (by omega)) rfl rfl rfl ⟨_, _, kd_h, rfl, rfl, by decide⟩ ⟨rfl, rfl⟩ ?_
      refine sj_istore_5 C 34 rfl dX7_spread_32 rfl rfl ?_
      refine sj_iload C 36 rfl dX7_spread_34 rfl ?_
      refine sj_iload_n C 37 rfl dX7_spread_36 rfl rfl ?_
      refine sj_icmp_ge C 45 40 rfl rfl dX7_spread_37 (fun c_37 => ?_) (fun c_37 => ?_)
      · refine sj_iload_n C 46 rfl dX7_spread_45 rfl rfl ?_
        refine sj_istore_n_2 C 47 rfl dX7_spread_46 rfl rfl ?_
        refine sj_iload C 49 rfl dX7_spread_47 rfl ?_
        refine sj_iload_n C 50 rfl dX7_spread_49 rfl rfl ?_
        refine sj_icmp_le C 58 53 rfl rfl dX7_spread_50 (fun c_50 => ?_) (fun c_50 => ?_)
        · refine sj_iload_n C 59 rfl dX7_spread_58 rfl rfl ?_
          refine sj_istore_n_3 C 60 rfl dX7_spread_59 rfl rfl ?_
          have ih' := ih hlt (some (.int (sj_os (sj_ia S (b 1)) i (k + 1) 0)))
          have emn : sj_mn (fun k => sj_os (sj_ia S (b 1)) i k 0) (k + 1) = sj_mn (fun k => sj_os (sj_ia S (b 1)) i k 0) k := if_neg (sj_nlt.mpr c_37)
          have emx : sj_mx (fun k => sj_os (sj_ia S (b 1)) i k 0) (k + 1) = sj_mx (fun k => sj_os (sj_ia S (b 1)) i k 0) k := if_neg (sj_nlt.mpr c_50)
          rw [emn, emx] at ih'
          refine sj_iinc_4 C 63 rfl dX7_spread_60 rfl rfl ?_
          refine sj_goto C 13 rfl dX7_spread_63 ?_
          rw [sj_n1]
          exact ih'
        · refine sj_iload C 55 rfl dX7_spread_53 rfl ?_
          refine sj_goto C 59 rfl dX7_spread_55 ?_
          refine sj_istore_n_3 C 60 rfl dX7_spread_59 rfl rfl ?_
          have ih' := ih hlt (some (.int (sj_os (sj_ia S (b 1)) i (k + 1) 0)))
          have emn : sj_mn (fun k => sj_os (sj_ia S (b 1)) i k 0) (k + 1) = sj_mn (fun k => sj_os (sj_ia S (b 1)) i k 0) k := if_neg (sj_nlt.mpr c_37)
          have emx : sj_mx (fun k => sj_os (sj_ia S (b 1)) i k 0) (k + 1) = sj_os (sj_ia S (b 1)) i (k + 1) 0 := if_pos (sj_nle.mp c_50)
          rw [emn, emx] at ih'
          refine sj_iinc_4 C 63 rfl dX7_spread_60 rfl rfl ?_
          refine sj_goto C 13 rfl dX7_spread_63 ?_
          rw [sj_n1]
          exact ih'
      · refine sj_iload C 42 rfl dX7_spread_40 rfl ?_
        refine sj_goto C 46 rfl dX7_spread_42 ?_
        refine sj_istore_n_2 C 47 rfl dX7_spread_46 rfl rfl ?_
        refine sj_iload C 49 rfl dX7_spread_47 rfl ?_
        refine sj_iload_n C 50 rfl dX7_spread_49 rfl rfl ?_
        refine sj_icmp_le C 58 53 rfl rfl dX7_spread_50 (fun c_50 => ?_) (fun c_50 => ?_)
        · refine sj_iload_n C 59 rfl dX7_spread_58 rfl rfl ?_
          refine sj_istore_n_3 C 60 rfl dX7_spread_59 rfl rfl ?_
          have ih' := ih hlt (some (.int (sj_os (sj_ia S (b 1)) i (k + 1) 0)))
          have emn : sj_mn (fun k => sj_os (sj_ia S (b 1)) i k 0) (k + 1) = sj_os (sj_ia S (b 1)) i (k + 1) 0 := if_pos (sj_nle.mp c_37)
          have emx : sj_mx (fun k => sj_os (sj_ia S (b 1)) i k 0) (k + 1) = sj_mx (fun k => sj_os (sj_ia S (b 1)) i k 0) k := if_neg (sj_nlt.mpr c_50)
          rw [emn, emx] at ih'
          refine sj_iinc_4 C 63 rfl dX7_spread_60 rfl rfl ?_
          refine sj_goto C 13 rfl dX7_spread_63 ?_
          rw [sj_n1]
          exact ih'
        · refine sj_iload C 55 rfl dX7_spread_53 rfl ?_
          refine sj_goto C 59 rfl dX7_spread_55 ?_
          refine sj_istore_n_3 C 60 rfl dX7_spread_59 rfl rfl ?_
          have ih' := ih hlt (some (.int (sj_os (sj_ia S (b 1)) i (k + 1) 0)))
          have emn : sj_mn (fun k => sj_os (sj_ia S (b 1)) i k 0) (k + 1) = sj_os (sj_ia S (b 1)) i (k + 1) 0 := if_pos (sj_nle.mp c_37)
          have emx : sj_mx (fun k => sj_os (sj_ia S (b 1)) i k 0) (k + 1) = sj_os (sj_ia S (b 1)) i (k + 1) 0 := if_pos (sj_nle.mp c_50)
          rw [emn, emx] at ih'
          refine sj_iinc_4 C 63 rfl dX7_spread_60 rfl rfl ?_
          refine sj_goto C 13 rfl dX7_spread_63 ?_
          rw [sj_n1]
          exact ih'
  refine sj_aload_n C 1 rfl dX7_spread_0 rfl rfl ?_
  refine sj_iload_n C 2 rfl dX7_spread_1 rfl rfl ?_
  refine sj_iconstv C (0) 3 rfl dX7_spread_2 rfl ?_
  refine sj_iconstv C (0) 4 rfl dX7_spread_3 rfl ?_
  refine sj_callVd C 7 rfl dX7_spread_4 cv_X7_57 rfl (ct_X7_ofStroke _ hm i 0 0 hi (by omega)) rfl rfl rfl ⟨_, _, kd_h, rfl, rfl, by decide⟩ ⟨rfl, rfl⟩ ?_
  refine sj_istore_n_2 C 8 rfl dX7_spread_7 rfl rfl ?_
  refine sj_iload_n C 9 rfl dX7_spread_8 rfl rfl ?_
  refine sj_istore_n_3 C 10 rfl dX7_spread_9 rfl rfl ?_
  refine sj_iconstv C (1) 11 rfl dX7_spread_10 rfl ?_
  refine sj_istore_4 C 13 rfl dX7_spread_11 rfl rfl ?_
  exact cut_13
set_option maxRecDepth 100000 in
set_option maxHeartbeats 4000000 in
theorem ct_X7_loopHeight (l : Launch) {S : sj_St} {h : Nat} {b : Nat → Nat} {m : Nat → Int32} (hm : sj_mm S h b m) (i : Nat) (hv : sj_shv m i) : sj_Ctr l mX7_loopHeight [.ref h, .int (nI i)] S (sj_eq (some (.int (sj_lh m i))) S) := by
  refine sj_start ([some (.ref h), some (.int (nI i)), none, none, none]) (by decide +kernel) rfl rfl (fun X hX C hR => ?_)
  subst hX
  have hm0 := hm
  obtain ⟨hm', em⟩ := hm0
  subst em
  obtain ⟨kd_h, ⟨rf_h_1, kd_a1, il_a1⟩, ⟨rf_h_2, kd_a2, il_a2⟩, ⟨rf_h_3, kd_a3, il_a3⟩, ⟨rf_h_5, kd_a5, il_a5⟩, ⟨rf_h_7, kd_a7, il_a7⟩, ⟨rf_h_13, kd_a13, il_a13⟩, ⟨rf_h_15, kd_a15, il_a15⟩, hinj⟩ := hm'
  obtain ⟨hi, hn, hn1, hn8, hh⟩ := id hv
  have cut_18 : ¬ sj_tot (sj_ia S (b 1)) i 2 = 0 → sj_G X S 0 0 [some (.ref h), some (.int (nI i)), some (.int (sj_tot (sj_ia S (b 1)) i 2)), some (.int (sj_sum (fun k => sj_os (sj_ia S (b 1)) i k 2 * sj_os (sj_ia S (b 1)) i k 1) 0)), some (.int (nI 0))] 18 [] := by
    intro hz
    refine sj_down (fun k => sj_G X S 0 0 [some (.ref h), some (.int (nI i)), some (.int (sj_tot (sj_ia S (b 1)) i 2)), some (.int (sj_sum (fun k => sj_os (sj_ia S (b 1)) i k 2 * sj_os (sj_ia S (b 1)) i k 1) k)), some (.int (nI k))] 18 []) (sj_ns (sj_ia S (b 1)) i) (fun k hk ih => ?_)
    refine sj_iload C 20 rfl dX7_loopHeight_18 rfl ?_
    refine sj_aload_n C 21 rfl dX7_loopHeight_20 rfl rfl ?_
    refine sj_iload_n C 22 rfl dX7_loopHeight_21 rfl rfl ?_
    refine sj_iconstv C (1) 23 rfl dX7_loopHeight_22 rfl ?_
    refine sj_callVd C 26 rfl dX7_loopHeight_23 cv_X7_39 rfl (ct_X7_of _ hm i 1 hi (by omega)) rfl rfl rfl ⟨_, _, kd_h, rfl, rfl, by decide⟩ ⟨rfl, rfl⟩ ?_
    refine sj_icmp_ge C 55 29 rfl rfl dX7_loopHeight_26 (fun c_26 => ?_) (fun c_26 => ?_)
    · refine sj_iload_n C 56 rfl dX7_loopHeight_55 rfl rfl ?_
      refine sj_iload_n C 57 rfl dX7_loopHeight_56 rfl rfl ?_
      refine sj_idiv C 58 rfl dX7_loopHeight_57 hz ?_
      refine sj_bipush C (10) 60 rfl dX7_loopHeight_58 (by decide) ?_
      refine sj_imul C 61 rfl dX7_loopHeight_60 ?_
      refine sj_aload_n C 62 rfl dX7_loopHeight_61 rfl rfl ?_
      refine sj_iload_n C 63 rfl dX7_loopHeight_62 rfl rfl ?_
      refine sj_iconstv C (1) 64 rfl dX7_loopHeight_63 rfl ?_
      refine sj_callVd C 67 rfl dX7_loopHeight_64 cv_X7_61 rfl (ct_X7_sumOf _ hm i 1 hi (by omega) hn hn8) rfl rfl rfl ⟨_, _, kd_h, rfl, rfl, by decide⟩ ⟨rfl, rfl⟩ ?_
      refine sj_aload_n C 68 rfl dX7_loopHeight_67 rfl rfl ?_
      refine sj_iload_n C 69 rfl dX7_loopHeight_68 rfl rfl ?_
      refine sj_iconstv C (1) 70 rfl dX7_loopHeight_69 rfl ?_
      refine sj_callVd C 73 rfl dX7_loopHeight_70 cv_X7_39 rfl (ct_X7_of _ hm i 1 hi (by omega)) rfl rfl rfl ⟨_, _, kd_h, rfl, rfl, by decide⟩ ⟨rfl, rfl⟩ ?_
      refine sj_idiv C 74 rfl dX7_loopHeight_73 (by rw [hn]; exact nI_ne0 (by omega) (by omega)) ?_
      refine sj_idiv C 75 rfl dX7_loopHeight_74 (by rw [hn]; exact hh) ?_
      refine sj_iret C hR rfl rfl dX7_loopHeight_75 ?_
      refine ⟨congrArg (fun z => some (Value.int z)) ?_, rfl⟩
      have hke : k = sj_ns (sj_ia S (b 1)) i := by
        have h9 : ¬ k < sj_ns (sj_ia S (b 1)) i := fun h8 => nI_ge h8 (by omega) (by rw [← hn]; exact c_26)
        omega
      subst hke
      unfold sj_lh
      rw [if_neg hz, hn]
    · have hlt : k < sj_ns (sj_ia S (b 1)) i := Nat.not_le.mp fun h9 => c_26 (by rw [hn]; exact nI_le h9 (by omega))
      refine sj_iload_n C 30 rfl dX7_loopHeight_29 rfl rfl ?_
      refine sj_aload_n C 31 rfl dX7_loopHeight_30 rfl rfl ?_
      refine sj_iload_n C 32 rfl dX7_loopHeight_31 rfl rfl ?_
      refine sj_iload C 34 rfl dX7_loopHeight_32 rfl ?_
      refine sj_iconstv C (2) 35 rfl dX7_loopHeight_34 rfl ?_
      refine sj_callVd C 38 rfl dX7_loopHeight_35 cv_X7_57 rfl (ct_X7_ofStroke _ hm i k 2 hi (by omega)) rfl rfl rfl ⟨_, _, kd_h, rfl, rfl, by decide⟩ ⟨rfl, rfl⟩ ?_
      refine sj_aload_n C 39 rfl dX7_loopHeight_38 rfl rfl ?_
      refine sj_iload_n C 40 rfl dX7_loopHeight_39 rfl rfl ?_
      refine sj_iload C 42 rfl dX7_loopHeight_40 rfl ?_
      refine sj_iconstv C (1) 43 rfl dX7_loopHeight_42 rfl ?_
      refine sj_callVd C 46 rfl dX7_loopHeight_43 cv_X7_57 rfl (ct_X7_ofStroke _ hm i k 1 hi (by omega)) rfl rfl rfl ⟨_, _, kd_h, rfl, rfl, by decide⟩ ⟨rfl, rfl⟩ ?_
      refine sj_imul C 47 rfl dX7_loopHeight_46 ?_
      refine sj_iadd C 48 rfl dX7_loopHeight_47 ?_
      refine sj_istore_n_3 C 49 rfl dX7_loopHeight_48 rfl rfl ?_
      refine sj_iinc_4 C 52 rfl dX7_loopHeight_49 rfl rfl ?_
      refine sj_goto C 18 rfl dX7_loopHeight_52 ?_
      rw [sj_n1]
      exact ih hlt
  refine sj_aload_n C 1 rfl dX7_loopHeight_0 rfl rfl ?_
  refine sj_iload_n C 2 rfl dX7_loopHeight_1 rfl rfl ?_
  refine sj_iconstv C (2) 3 rfl dX7_loopHeight_2 rfl ?_
  refine sj_callVd C 6 rfl dX7_loopHeight_3 cv_X7_61 rfl (ct_X7_sumOf _ hm i 2 hi (by omega) hn hn8) rfl rfl rfl ⟨_, _, kd_h, rfl, rfl, by decide⟩ ⟨rfl, rfl⟩ ?_
  refine sj_istore_n_2 C 7 rfl dX7_loopHeight_6 rfl rfl ?_
  refine sj_iload_n C 8 rfl dX7_loopHeight_7 rfl rfl ?_
  refine sj_if_ne C 13 11 rfl rfl dX7_loopHeight_8 (fun c_8 => ?_) (fun c_8 => ?_)
  · refine sj_iconstv C (0) 14 rfl dX7_loopHeight_13 rfl ?_
    refine sj_istore_n_3 C 15 rfl dX7_loopHeight_14 rfl rfl ?_
    refine sj_iconstv C (0) 16 rfl dX7_loopHeight_15 rfl ?_
    refine sj_istore_4 C 18 rfl dX7_loopHeight_16 rfl rfl ?_
    exact cut_18 c_8
  · refine sj_iconstv C (0) 12 rfl dX7_loopHeight_11 rfl ?_
    refine sj_iret C hR rfl rfl dX7_loopHeight_12 ?_
    refine ⟨congrArg (fun z => some (Value.int z)) ?_, rfl⟩
    unfold sj_lh
    rw [if_pos c_8]
set_option maxRecDepth 100000 in
set_option maxHeartbeats 4000000 in
theorem ct_X7_unrest (l : Launch) {S : sj_St} {h : Nat} {b : Nat → Nat} {m : Nat → Int32} (hm : sj_mm S h b m) (i : Nat) (hv : sj_shv m i) : sj_Ctr l mX7_unrest [.ref h, .int (nI i)] S (sj_eq (some (.int (sj_ur m i))) S) := by
  refine sj_start ([some (.ref h), some (.int (nI i)), none, none, none]) (by decide +kernel) rfl rfl (fun X hX C hR => ?_)
  subst hX
  have hm0 := hm
  obtain ⟨hm', em⟩ := hm0
  subst em
  obtain ⟨kd_h, ⟨rf_h_1, kd_a1, il_a1⟩, ⟨rf_h_2, kd_a2, il_a2⟩, ⟨rf_h_3, kd_a3, il_a3⟩, ⟨rf_h_5, kd_a5, il_a5⟩, ⟨rf_h_7, kd_a7, il_a7⟩, ⟨rf_h_13, kd_a13, il_a13⟩, ⟨rf_h_15, kd_a15, il_a15⟩, hinj⟩ := hm'
  obtain ⟨hi, hn, hn1, hn8, hh⟩ := id hv
  have cut_12 : sj_G X S 0 0 [some (.ref h), some (.int (nI i)), some (.int (nI (sj_ns (sj_ia S (b 1)) i))), some (.int (sj_sum (fun k => sj_sz (sj_os (sj_ia S (b 1)) i (k + 1) 3 - sj_os (sj_ia S (b 1)) i k 3)) 0)), some (.int (nI 1))] 12 [] := by
    refine sj_down (fun k => sj_G X S 0 0 [some (.ref h), some (.int (nI i)), some (.int (nI (sj_ns (sj_ia S (b 1)) i))), some (.int (sj_sum (fun k => sj_sz (sj_os (sj_ia S (b 1)) i (k + 1) 3 - sj_os (sj_ia S (b 1)) i k 3)) k)), some (.int (nI (k + 1)))] 12 []) (sj_ns (sj_ia S (b 1)) i - 1) (fun k hk ih => ?_)
    refine sj_iload C 14 rfl dX7_unrest_12 rfl ?_
    refine sj_iload_n C 15 rfl dX7_unrest_14 rfl rfl ?_
    refine sj_icmp_ge C 49 18 rfl rfl dX7_unrest_15 (fun c_15 => ?_) (fun c_15 => ?_)
    · refine sj_iload_n C 50 rfl dX7_unrest_49 rfl rfl ?_
      have hke : k = sj_ns (sj_ia S (b 1)) i - 1 := by
        have h9 : ¬ k < sj_ns (sj_ia S (b 1)) i - 1 := fun h8 => nI_ge (a := k + 1) (b := sj_ns (sj_ia S (b 1)) i) (by omega) (by omega) c_15
        omega
      refine sj_iconstv C (1) 51 rfl dX7_unrest_50 rfl ?_
      refine sj_icmp_ne C 58 54 rfl rfl dX7_unrest_51 (fun c_51 => ?_) (fun c_51 => ?_)
      · refine sj_iload_n C 59 rfl dX7_unrest_58 rfl rfl ?_
        refine sj_bipush C (10) 61 rfl dX7_unrest_59 (by decide) ?_
        refine sj_imul C 62 rfl dX7_unrest_61 ?_
        refine sj_iload_n C 63 rfl dX7_unrest_62 rfl rfl ?_
        refine sj_iconstv C (1) 64 rfl dX7_unrest_63 rfl ?_
        refine sj_isub C 65 rfl dX7_unrest_64 ?_
        refine sj_idiv C 66 rfl dX7_unrest_65 (by rw [show nI (sj_ns (sj_ia S (b 1)) i) - 1 = nI (sj_ns (sj_ia S (b 1)) i - 1) from sj_nsub (b := 1) hn1]; refine nI_ne0 ?_ (by omega); have h9 : ¬ sj_ns (sj_ia S (b 1)) i = 1 := fun h8 => c_51 (by rw [h8]; rfl); omega) ?_
        refine sj_iret C hR rfl rfl dX7_unrest_66 ?_
        refine ⟨congrArg (fun z => some (Value.int z)) ?_, rfl⟩
        unfold sj_ur
        have h9 : ¬ sj_ns (sj_ia S (b 1)) i = 1 := fun h8 => c_51 (by rw [h8]; rfl)
        rw [if_neg h9, hke]
      · refine sj_iconstv C (0) 55 rfl dX7_unrest_54 rfl ?_
        refine sj_goto C 66 rfl dX7_unrest_55 ?_
        refine sj_iret C hR rfl rfl dX7_unrest_66 ?_
        refine ⟨congrArg (fun z => some (Value.int z)) ?_, rfl⟩
        unfold sj_ur
        have h9 : sj_ns (sj_ia S (b 1)) i = 1 := (nI_eq (by omega) (by omega)).mp c_51
        rw [if_pos h9]
    · have hlt : k < sj_ns (sj_ia S (b 1)) i - 1 := Nat.not_le.mp fun h9 => c_15 (nI_le (by omega) (by omega))
      refine sj_iload_n C 19 rfl dX7_unrest_18 rfl rfl ?_
      refine sj_aload_n C 20 rfl dX7_unrest_19 rfl rfl ?_
      refine sj_iload_n C 21 rfl dX7_unrest_20 rfl rfl ?_
      refine sj_iload C 23 rfl dX7_unrest_21 rfl ?_
      refine sj_iconstv C (3) 24 rfl dX7_unrest_23 rfl ?_
      refine sj_callVd C 27 rfl dX7_unrest_24 cv_X7_57 rfl (ct_X7_ofStroke _ hm i (k + 1) 3 hi (by omega)) rfl rfl rfl ⟨_, _, kd_h, rfl, rfl, by decide⟩ ⟨rfl, rfl⟩ ?_
      refine sj_aload_n C 28 rfl dX7_unrest_27 rfl rfl ?_
      refine sj_iload_n C 29 rfl dX7_unrest_28 rfl rfl ?_
      refine sj_iload C 31 rfl dX7_unrest_29 rfl ?_
      refine sj_iconstv C (1) 32 rfl dX7_unrest_31 rfl ?_
      refine sj_isub C 33 rfl dX7_unrest_32 ?_
      rw [show nI (k + 1) - 1 = nI k from nI_pred k]
      refine sj_iconstv C (3) 34 rfl dX7_unrest_33 rfl ?_
      refine sj_callVd C 37 rfl dX7_unrest_34 cv_X7_57 rfl (ct_X7_ofStroke _ hm i k 3 hi (by omega)) rfl rfl rfl ⟨_, _, kd_h, rfl, rfl, by decide⟩ ⟨rfl, rfl⟩ ?_
      refine sj_isub C 38 rfl dX7_unrest_37 ?_
      refine sj_callSd C 41 rfl dX7_unrest_38 cv_X7_64 rfl (ct_X7_sizeOf _ _ _) rfl rfl rfl ⟨rfl, rfl⟩ ?_
      refine sj_iadd C 42 rfl dX7_unrest_41 ?_
      refine sj_istore_n_3 C 43 rfl dX7_unrest_42 rfl rfl ?_
      refine sj_iinc_4 C 46 rfl dX7_unrest_43 rfl rfl ?_
      refine sj_goto C 12 rfl dX7_unrest_46 ?_
      rw [sj_n1]
      exact ih hlt
  refine sj_aload_n C 1 rfl dX7_unrest_0 rfl rfl ?_
  refine sj_iload_n C 2 rfl dX7_unrest_1 rfl rfl ?_
  refine sj_iconstv C (1) 3 rfl dX7_unrest_2 rfl ?_
  refine sj_callVd C 6 rfl dX7_unrest_3 cv_X7_39 rfl (ct_X7_of _ hm i 1 hi (by omega)) rfl rfl rfl ⟨_, _, kd_h, rfl, rfl, by decide⟩ ⟨rfl, rfl⟩ ?_
  refine sj_istore_n_2 C 7 rfl dX7_unrest_6 rfl rfl ?_
  refine sj_iconstv C (0) 8 rfl dX7_unrest_7 rfl ?_
  refine sj_istore_n_3 C 9 rfl dX7_unrest_8 rfl rfl ?_
  refine sj_iconstv C (1) 10 rfl dX7_unrest_9 rfl ?_
  refine sj_istore_4 C 12 rfl dX7_unrest_10 rfl rfl ?_
  rw [hn]
  exact cut_12
set_option maxRecDepth 100000 in
set_option maxHeartbeats 4000000 in
theorem ct_X7_markOf (l : Launch) {S : sj_St} {h : Nat} {b : Nat → Nat} {m : Nat → Int32} (hm : sj_mm S h b m) (i : Nat) (hv : sj_shv m i) (j : Nat) (hj : j < 6) : sj_Ctr l mX7_markOf [.ref h, .int (nI i), .int (nI j)] S (sj_eq (some (.int (sj_mk m i j))) S) := by
  refine sj_start ([some (.ref h), some (.int (nI i)), some (.int (nI j))]) (by decide +kernel) rfl rfl (fun X hX C hR => ?_)
  subst hX
  have hm0 := hm
  obtain ⟨hm', em⟩ := hm0
  subst em
  obtain ⟨kd_h, ⟨rf_h_1, kd_a1, il_a1⟩, ⟨rf_h_2, kd_a2, il_a2⟩, ⟨rf_h_3, kd_a3, il_a3⟩, ⟨rf_h_5, kd_a5, il_a5⟩, ⟨rf_h_7, kd_a7, il_a7⟩, ⟨rf_h_13, kd_a13, il_a13⟩, ⟨rf_h_15, kd_a15, il_a15⟩, hinj⟩ := hm'
  obtain ⟨hi, hn, hn1, hn8, hh⟩ := id hv
  refine sj_iload_n C 1 rfl dX7_markOf_0 rfl rfl ?_
  obtain rfl | rfl | rfl | rfl | rfl | rfl : j = 0 ∨ j = 1 ∨ j = 2 ∨ j = 3 ∨ j = 4 ∨ j = 5 := by omega
  · refine sj_tableIn C 36 dX7_markOf_1 (by decide) (by decide) rfl rfl ?_
    refine sj_aload_n C 37 rfl dX7_markOf_36 rfl rfl ?_
    refine sj_iload_n C 38 rfl dX7_markOf_37 rfl rfl ?_
    refine sj_iconstv C (0) 39 rfl dX7_markOf_38 rfl ?_
    refine sj_callVd C 42 rfl dX7_markOf_39 cv_X7_61 rfl (ct_X7_sumOf _ hm i 0 hi (by omega) hn hn8) rfl rfl rfl ⟨_, _, kd_h, rfl, rfl, by decide⟩ ⟨rfl, rfl⟩ ?_
    refine sj_aload_n C 43 rfl dX7_markOf_42 rfl rfl ?_
    refine sj_iload_n C 44 rfl dX7_markOf_43 rfl rfl ?_
    refine sj_iconstv C (1) 45 rfl dX7_markOf_44 rfl ?_
    refine sj_callVd C 48 rfl dX7_markOf_45 cv_X7_39 rfl (ct_X7_of _ hm i 1 hi (by omega)) rfl rfl rfl ⟨_, _, kd_h, rfl, rfl, by decide⟩ ⟨rfl, rfl⟩ ?_
    refine sj_callSd C 51 rfl dX7_markOf_48 cv_X7_67 rfl (ct_X7_divided _ _ _ _ (by rw [hn]; exact nI_ne0 (by omega) (by omega))) rfl rfl rfl ⟨rfl, rfl⟩ ?_
    refine sj_iret C hR rfl rfl dX7_markOf_51 ?_
    refine ⟨congrArg (fun z => some (Value.int z)) ?_, rfl⟩
    show _ = sj_dv _ _
    rw [hn]
  · refine sj_tableIn C 52 dX7_markOf_1 (by decide) (by decide) rfl rfl ?_
    refine sj_aload_n C 53 rfl dX7_markOf_52 rfl rfl ?_
    refine sj_iload_n C 54 rfl dX7_markOf_53 rfl rfl ?_
    refine sj_callVd C 57 rfl dX7_markOf_54 cv_X7_70 rfl (ct_X7_spread _ hm i hv) rfl rfl rfl ⟨_, _, kd_h, rfl, rfl, by decide⟩ ⟨rfl, rfl⟩ ?_
    refine sj_iret C hR rfl rfl dX7_markOf_57 ?_
    refine ⟨congrArg (fun z => some (Value.int z)) ?_, rfl⟩
    rfl
  · refine sj_tableIn C 58 dX7_markOf_1 (by decide) (by decide) rfl rfl ?_
    refine sj_aload_n C 59 rfl dX7_markOf_58 rfl rfl ?_
    refine sj_iload_n C 60 rfl dX7_markOf_59 rfl rfl ?_
    refine sj_callVd C 63 rfl dX7_markOf_60 cv_X7_73 rfl (ct_X7_loopHeight _ hm i hv) rfl rfl rfl ⟨_, _, kd_h, rfl, rfl, by decide⟩ ⟨rfl, rfl⟩ ?_
    refine sj_iret C hR rfl rfl dX7_markOf_63 ?_
    refine ⟨congrArg (fun z => some (Value.int z)) ?_, rfl⟩
    rfl
  · refine sj_tableIn C 64 dX7_markOf_1 (by decide) (by decide) rfl rfl ?_
    refine sj_bipush C (100) 66 rfl dX7_markOf_64 (by decide) ?_
    refine sj_aload_n C 67 rfl dX7_markOf_66 rfl rfl ?_
    refine sj_iload_n C 68 rfl dX7_markOf_67 rfl rfl ?_
    refine sj_iconstv C (2) 69 rfl dX7_markOf_68 rfl ?_
    refine sj_callVd C 72 rfl dX7_markOf_69 cv_X7_61 rfl (ct_X7_sumOf _ hm i 2 hi (by omega) hn hn8) rfl rfl rfl ⟨_, _, kd_h, rfl, rfl, by decide⟩ ⟨rfl, rfl⟩ ?_
    refine sj_imul C 73 rfl dX7_markOf_72 ?_
    refine sj_aload_n C 74 rfl dX7_markOf_73 rfl rfl ?_
    refine sj_iload_n C 75 rfl dX7_markOf_74 rfl rfl ?_
    refine sj_iconstv C (1) 76 rfl dX7_markOf_75 rfl ?_
    refine sj_callVd C 79 rfl dX7_markOf_76 cv_X7_39 rfl (ct_X7_of _ hm i 1 hi (by omega)) rfl rfl rfl ⟨_, _, kd_h, rfl, rfl, by decide⟩ ⟨rfl, rfl⟩ ?_
    refine sj_idiv C 80 rfl dX7_markOf_79 (by rw [hn]; exact nI_ne0 (by omega) (by omega)) ?_
    refine sj_iret C hR rfl rfl dX7_markOf_80 ?_
    refine ⟨congrArg (fun z => some (Value.int z)) ?_, rfl⟩
    show _ = 100 * _ / _
    rw [hn]
  · refine sj_tableIn C 81 dX7_markOf_1 (by decide) (by decide) rfl rfl ?_
    refine sj_bipush C (10) 83 rfl dX7_markOf_81 (by decide) ?_
    refine sj_aload_n C 84 rfl dX7_markOf_83 rfl rfl ?_
    refine sj_iload_n C 85 rfl dX7_markOf_84 rfl rfl ?_
    refine sj_iconstv C (3) 86 rfl dX7_markOf_85 rfl ?_
    refine sj_callVd C 89 rfl dX7_markOf_86 cv_X7_61 rfl (ct_X7_sumOf _ hm i 3 hi (by omega) hn hn8) rfl rfl rfl ⟨_, _, kd_h, rfl, rfl, by decide⟩ ⟨rfl, rfl⟩ ?_
    refine sj_imul C 90 rfl dX7_markOf_89 ?_
    refine sj_aload_n C 91 rfl dX7_markOf_90 rfl rfl ?_
    refine sj_iload_n C 92 rfl dX7_markOf_91 rfl rfl ?_
    refine sj_iconstv C (1) 93 rfl dX7_markOf_92 rfl ?_
    refine sj_callVd C 96 rfl dX7_markOf_93 cv_X7_39 rfl (ct_X7_of _ hm i 1 hi (by omega)) rfl rfl rfl ⟨_, _, kd_h, rfl, rfl, by decide⟩ ⟨rfl, rfl⟩ ?_
    refine sj_idiv C 97 rfl dX7_markOf_96 (by rw [hn]; exact nI_ne0 (by omega) (by omega)) ?_
    refine sj_iret C hR rfl rfl dX7_markOf_97 ?_
    refine ⟨congrArg (fun z => some (Value.int z)) ?_, rfl⟩
    show _ = 10 * _ / _
    rw [hn]
  · refine sj_tableOut C 98 dX7_markOf_1 (by decide) rfl ?_
    refine sj_aload_n C 99 rfl dX7_markOf_98 rfl rfl ?_
    refine sj_iload_n C 100 rfl dX7_markOf_99 rfl rfl ?_
    refine sj_callVd C 103 rfl dX7_markOf_100 cv_X7_76 rfl (ct_X7_unrest _ hm i hv) rfl rfl rfl ⟨_, _, kd_h, rfl, rfl, by decide⟩ ⟨rfl, rfl⟩ ?_
    refine sj_iret C hR rfl rfl dX7_markOf_103 ?_
    refine ⟨congrArg (fun z => some (Value.int z)) ?_, rfl⟩
    rfl
def sj_hf (m : Nat → Int32) (i : Nat) : Bool := decide (m 6 ≤ sj_of m i 0)
def sj_gn (m : Nat → Int32) (i e j : Nat) : Bool := (decide (j = 2) || decide (j = 3)) && (sj_hf m i || sj_hf m e)
def sj_dfr (m : Nat → Int32) (i e j : Nat) : Int32 := sj_sz (sj_mk m i j - sj_mk m e j) - sj_sz (sj_of m i 0 - sj_of m e 0) / 10
def sj_agb (m : Nat → Int32) (i e j : Nat) : Bool := !sj_gn m i e j && decide (sj_dfr m i e j ≤ m j)
def sj_agr (m : Nat → Int32) (i e : Nat) : Nat → Int32
  | 0 => 0
  | j + 1 => sj_agr m i e j ||| (if sj_agb m i e j then 1 <<< (nI j &&& 31) else 0)
def sj_ones (x : Int32) : Int32 := sj_sum (fun k => (x >>> (nI k &&& 31)) &&& 1) 8
def sj_lik (m : Nat → Int32) (i e : Nat) : Int32 := sj_ones (sj_agr m i e 6)
def sj_trm (m : Nat → Int32) (i : Nat) : Bool := decide (nI (sj_ns m i) * m 7 < sj_tot m i 4)
theorem sj_wi23 {j : Nat} (hj : j < 6) : sj_wi (nI j) 2 3 = (decide (j = 2) || decide (j = 3)) := by
  obtain rfl | rfl | rfl | rfl | rfl | rfl : j = 0 ∨ j = 1 ∨ j = 2 ∨ j = 3 ∨ j = 4 ∨ j = 5 := by omega
  all_goals decide
set_option maxRecDepth 100000 in
set_option maxHeartbeats 4000000 in
theorem ct_X7_hasFaded (l : Launch) {S : sj_St} {h : Nat} {b : Nat → Nat} {m : Nat → Int32} (hm : sj_mm S h b m) (i : Nat) (hi : i < 8) : sj_Ctr l mX7_hasFaded [.ref h, .int (nI i)] S (sj_eq (some (.int (sj_bi (sj_hf m i)))) S) := by
  refine sj_start ([some (.ref h), some (.int (nI i))]) (by decide +kernel) rfl rfl (fun X hX C hR => ?_)
  subst hX
  have hm0 := hm
  obtain ⟨hm', em⟩ := hm0
  subst em
  obtain ⟨kd_h, ⟨rf_h_1, kd_a1, il_a1⟩, ⟨rf_h_2, kd_a2, il_a2⟩, ⟨rf_h_3, kd_a3, il_a3⟩, ⟨rf_h_5, kd_a5, il_a5⟩, ⟨rf_h_7, kd_a7, il_a7⟩, ⟨rf_h_13, kd_a13, il_a13⟩, ⟨rf_h_15, kd_a15, il_a15⟩, hinj⟩ := hm'
  refine sj_aload_n C 1 rfl dX7_hasFaded_0 rfl rfl ?_
  refine sj_iload_n C 2 rfl dX7_hasFaded_1 rfl rfl ?_
  refine sj_iconstv C (0) 3 rfl dX7_hasFaded_2 rfl ?_
  refine sj_callVd C 6 rfl dX7_hasFaded_3 cv_X7_39 rfl (ct_X7_of _ hm i 0 hi (by omega)) rfl rfl rfl ⟨_, _, kd_h, rfl, rfl, by decide⟩ ⟨rfl, rfl⟩ ?_
  refine sj_aload_n C 7 rfl dX7_hasFaded_6 rfl rfl ?_
  refine sj_getr C 10 rfl fd_X7_7 dX7_hasFaded_7 kd_h rf_h_1 ?_
  refine sj_bipush C (6) 12 rfl dX7_hasFaded_10 (by decide) ?_
  refine sj_iald C 13 rfl dX7_hasFaded_12 kd_a1 (by show vp_in (nI 6) (sj_il S (b 1)); rw [il_a1]; exact vp_in_nI (by omega) (by omega)) ?_
  rw [show Int32.toNatClampNeg (6) = 6 from rfl]
  refine sj_icmp_lt C 20 16 rfl rfl dX7_hasFaded_13 (fun c_13 => ?_) (fun c_13 => ?_)
  · refine sj_iconstv C (0) 21 rfl dX7_hasFaded_20 rfl ?_
    refine sj_zret C hR rfl rfl rfl dX7_hasFaded_21 ?_
    refine ⟨congrArg (fun z => some (Value.int z)) ?_, rfl⟩
    unfold sj_hf
    rw [decide_eq_false (sj_nle.mpr c_13)]
    rfl
  · refine sj_iconstv C (1) 17 rfl dX7_hasFaded_16 rfl ?_
    refine sj_goto C 21 rfl dX7_hasFaded_17 ?_
    refine sj_zret C hR rfl rfl rfl dX7_hasFaded_21 ?_
    refine ⟨congrArg (fun z => some (Value.int z)) ?_, rfl⟩
    unfold sj_hf
    rw [decide_eq_true (sj_nlt.mp c_13)]
    rfl
set_option maxRecDepth 100000 in
set_option maxHeartbeats 4000000 in
theorem ct_X7_isGone (l : Launch) {S : sj_St} {h : Nat} {b : Nat → Nat} {m : Nat → Int32} (hm : sj_mm S h b m) (i e j : Nat) (hi : i < 8) (he : e < 8) (hj : j < 6) : sj_Ctr l mX7_isGone [.ref h, .int (nI i), .int (nI e), .int (nI j)] S (sj_eq (some (.int (sj_bi (sj_gn m i e j)))) S) := by
  refine sj_start ([some (.ref h), some (.int (nI i)), some (.int (nI e)), some (.int (nI j))]) (by decide +kernel) rfl rfl (fun X hX C hR => ?_)
  subst hX
  have hm0 := hm
  obtain ⟨hm', em⟩ := hm0
  subst em
  obtain ⟨kd_h, ⟨rf_h_1, kd_a1, il_a1⟩, ⟨rf_h_2, kd_a2, il_a2⟩, ⟨rf_h_3, kd_a3, il_a3⟩, ⟨rf_h_5, kd_a5, il_a5⟩, ⟨rf_h_7, kd_a7, il_a7⟩, ⟨rf_h_13, kd_a13, il_a13⟩, ⟨rf_h_15, kd_a15, il_a15⟩, hinj⟩ := hm'
  refine sj_iload_n C 1 rfl dX7_isGone_0 rfl rfl ?_
  refine sj_iconstv C (2) 2 rfl dX7_isGone_1 rfl ?_
  refine sj_iconstv C (3) 3 rfl dX7_isGone_2 rfl ?_
  refine sj_callSd C 6 rfl dX7_isGone_3 cv_X7_35 rfl (ct_X7_within _ _ _ _ _) rfl rfl rfl ⟨rfl, rfl⟩ ?_
  rw [sj_wi23 hj]
  refine sj_if_eq C 29 9 rfl rfl dX7_isGone_6 (fun c_6 => ?_) (fun c_6 => ?_)
  · refine sj_iconstv C (0) 30 rfl dX7_isGone_29 rfl ?_
    refine sj_zret C hR rfl rfl rfl dX7_isGone_30 ?_
    refine ⟨congrArg (fun z => some (Value.int z)) ?_, rfl⟩
    unfold sj_gn
    rw [sj_bi0.mp c_6, Bool.false_and]
    rfl
  · refine sj_aload_n C 10 rfl dX7_isGone_9 rfl rfl ?_
    refine sj_iload_n C 11 rfl dX7_isGone_10 rfl rfl ?_
    refine sj_callVd C 14 rfl dX7_isGone_11 cv_X7_79 rfl (ct_X7_hasFaded _ hm i hi) rfl rfl rfl ⟨_, _, kd_h, rfl, rfl, by decide⟩ ⟨rfl, rfl⟩ ?_
    refine sj_if_ne C 25 17 rfl rfl dX7_isGone_14 (fun c_14 => ?_) (fun c_14 => ?_)
    · refine sj_iconstv C (1) 26 rfl dX7_isGone_25 rfl ?_
      refine sj_goto C 30 rfl dX7_isGone_26 ?_
      refine sj_zret C hR rfl rfl rfl dX7_isGone_30 ?_
      refine ⟨congrArg (fun z => some (Value.int z)) ?_, rfl⟩
      unfold sj_gn
      rw [sj_bin.mp c_6, sj_bin.mp c_14]
      rfl
    · refine sj_aload_n C 18 rfl dX7_isGone_17 rfl rfl ?_
      refine sj_iload_n C 19 rfl dX7_isGone_18 rfl rfl ?_
      refine sj_callVd C 22 rfl dX7_isGone_19 cv_X7_79 rfl (ct_X7_hasFaded _ hm e he) rfl rfl rfl ⟨_, _, kd_h, rfl, rfl, by decide⟩ ⟨rfl, rfl⟩ ?_
      refine sj_if_eq C 29 25 rfl rfl dX7_isGone_22 (fun c_22 => ?_) (fun c_22 => ?_)
      · refine sj_iconstv C (0) 30 rfl dX7_isGone_29 rfl ?_
        refine sj_zret C hR rfl rfl rfl dX7_isGone_30 ?_
        refine ⟨congrArg (fun z => some (Value.int z)) ?_, rfl⟩
        unfold sj_gn
        rw [sj_bin.mp c_6, sj_bi0.mp c_14, sj_bi0.mp c_22]
        rfl
      · refine sj_iconstv C (1) 26 rfl dX7_isGone_25 rfl ?_
        refine sj_goto C 30 rfl dX7_isGone_26 ?_
        refine sj_zret C hR rfl rfl rfl dX7_isGone_30 ?_
        refine ⟨congrArg (fun z => some (Value.int z)) ?_, rfl⟩
        unfold sj_gn
        rw [sj_bin.mp c_6, sj_bi0.mp c_14, sj_bin.mp c_22]
        rfl
set_option maxRecDepth 100000 in
set_option maxHeartbeats 4000000 in
theorem ct_X7_differ (l : Launch) {S : sj_St} {h : Nat} {b : Nat → Nat} {m : Nat → Int32} (hm : sj_mm S h b m) (i e : Nat) (hv : sj_shv m i) (hw : sj_shv m e) (j : Nat) (hj : j < 6) : sj_Ctr l mX7_differ [.ref h, .int (nI i), .int (nI e), .int (nI j)] S (sj_eq (some (.int (sj_dfr m i e j))) S) := by
  refine sj_start ([some (.ref h), some (.int (nI i)), some (.int (nI e)), some (.int (nI j))]) (by decide +kernel) rfl rfl (fun X hX C hR => ?_)
  subst hX
  have hm0 := hm
  obtain ⟨hm', em⟩ := hm0
  subst em
  obtain ⟨kd_h, ⟨rf_h_1, kd_a1, il_a1⟩, ⟨rf_h_2, kd_a2, il_a2⟩, ⟨rf_h_3, kd_a3, il_a3⟩, ⟨rf_h_5, kd_a5, il_a5⟩, ⟨rf_h_7, kd_a7, il_a7⟩, ⟨rf_h_13, kd_a13, il_a13⟩, ⟨rf_h_15, kd_a15, il_a15⟩, hinj⟩ := hm'
  refine sj_aload_n C 1 rfl dX7_differ_0 rfl rfl ?_
  refine sj_iload_n C 2 rfl dX7_differ_1 rfl rfl ?_
  refine sj_iload_n C 3 rfl dX7_differ_2 rfl rfl ?_
  refine sj_callVd C 6 rfl dX7_differ_3 cv_X7_83 rfl (ct_X7_markOf _ hm i hv j hj) rfl rfl rfl ⟨_, _, kd_h, rfl, rfl, by decide⟩ ⟨rfl, rfl⟩ ?_
  refine sj_aload_n C 7 rfl dX7_differ_6 rfl rfl ?_
  refine sj_iload_n C 8 rfl dX7_differ_7 rfl rfl ?_
  refine sj_iload_n C 9 rfl dX7_differ_8 rfl rfl ?_
  refine sj_callVd C 12 rfl dX7_differ_9 cv_X7_83 rfl (ct_X7_markOf _ hm e hw j hj) rfl rfl rfl ⟨_, _, kd_h, rfl, rfl, by decide⟩ ⟨rfl, rfl⟩ ?_
  refine sj_isub C 13 rfl dX7_differ_12 ?_
  refine sj_callSd C 16 rfl dX7_differ_13 cv_X7_64 rfl (ct_X7_sizeOf _ _ _) rfl rfl rfl ⟨rfl, rfl⟩ ?_
  refine sj_aload_n C 17 rfl dX7_differ_16 rfl rfl ?_
  refine sj_iload_n C 18 rfl dX7_differ_17 rfl rfl ?_
  refine sj_iconstv C (0) 19 rfl dX7_differ_18 rfl ?_
  refine sj_callVd C 22 rfl dX7_differ_19 cv_X7_39 rfl (ct_X7_of _ hm i 0 hv.1 (by omega)) rfl rfl rfl ⟨_, _, kd_h, rfl, rfl, by decide⟩ ⟨rfl, rfl⟩ ?_
  refine sj_aload_n C 23 rfl dX7_differ_22 rfl rfl ?_
  refine sj_iload_n C 24 rfl dX7_differ_23 rfl rfl ?_
  refine sj_iconstv C (0) 25 rfl dX7_differ_24 rfl ?_
  refine sj_callVd C 28 rfl dX7_differ_25 cv_X7_39 rfl (ct_X7_of _ hm e 0 hw.1 (by omega)) rfl rfl rfl ⟨_, _, kd_h, rfl, rfl, by decide⟩ ⟨rfl, rfl⟩ ?_
  refine sj_isub C 29 rfl dX7_differ_28 ?_
  refine sj_callSd C 32 rfl dX7_differ_29 cv_X7_64 rfl (ct_X7_sizeOf _ _ _) rfl rfl rfl ⟨rfl, rfl⟩ ?_
  refine sj_bipush C (10) 34 rfl dX7_differ_32 (by decide) ?_
  refine sj_idiv C 35 rfl dX7_differ_34 (by decide) ?_
  refine sj_isub C 36 rfl dX7_differ_35 ?_
  refine sj_iret C hR rfl rfl dX7_differ_36 ?_
  exact ⟨rfl, rfl⟩
set_option maxRecDepth 100000 in
set_option maxHeartbeats 4000000 in
theorem ct_X7_agreeing (l : Launch) {S : sj_St} {h : Nat} {b : Nat → Nat} {m : Nat → Int32} (hm : sj_mm S h b m) (i e : Nat) (hv : sj_shv m i) (hw : sj_shv m e) : sj_Ctr l mX7_agreeing [.ref h, .int (nI i), .int (nI e)] S (sj_eq (some (.int (sj_agr m i e 6))) S) := by
  refine sj_start ([some (.ref h), some (.int (nI i)), some (.int (nI e)), none, none]) (by decide +kernel) rfl rfl (fun X hX C hR => ?_)
  subst hX
  have hm0 := hm
  obtain ⟨hm', em⟩ := hm0
  subst em
  obtain ⟨kd_h, ⟨rf_h_1, kd_a1, il_a1⟩, ⟨rf_h_2, kd_a2, il_a2⟩, ⟨rf_h_3, kd_a3, il_a3⟩, ⟨rf_h_5, kd_a5, il_a5⟩, ⟨rf_h_7, kd_a7, il_a7⟩, ⟨rf_h_13, kd_a13, il_a13⟩, ⟨rf_h_15, kd_a15, il_a15⟩, hinj⟩ := hm'
  have cut_5 : sj_G X S 0 0 [some (.ref h), some (.int (nI i)), some (.int (nI e)), some (.int (sj_agr (sj_ia S (b 1)) i e 0)), some (.int (nI 0))] 5 [] := by
    refine sj_down (fun k => sj_G X S 0 0 [some (.ref h), some (.int (nI i)), some (.int (nI e)), some (.int (sj_agr (sj_ia S (b 1)) i e k)), some (.int (nI k))] 5 []) 6 (fun k hk ih => ?_)
    refine sj_iload C 7 rfl dX7_agreeing_5 rfl ?_
    refine sj_bipush C (6) 9 rfl dX7_agreeing_7 (by decide) ?_
    refine sj_icmp_ge C 60 12 rfl rfl dX7_agreeing_9 (fun c_9 => ?_) (fun c_9 => ?_)
    · refine sj_iload_n C 61 rfl dX7_agreeing_60 rfl rfl ?_
      refine sj_iret C hR rfl rfl dX7_agreeing_61 ?_
      refine ⟨congrArg (fun z => some (Value.int z)) ?_, rfl⟩
      have hke : k = 6 := by
        have h9 : ¬ k < 6 := fun h8 => nI_ge (b := 6) h8 (by omega) c_9
        omega
      subst hke
      rfl
    · have hlt : k < 6 := Nat.not_le.mp fun h9 => c_9 (nI_le (a := 6) h9 (by omega))
      refine sj_iload_n C 13 rfl dX7_agreeing_12 rfl rfl ?_
      refine sj_aload_n C 14 rfl dX7_agreeing_13 rfl rfl ?_
      refine sj_iload_n C 15 rfl dX7_agreeing_14 rfl rfl ?_
      refine sj_iload_n C 16 rfl dX7_agreeing_15 rfl rfl ?_
      refine sj_iload C 18 rfl dX7_agreeing_16 rfl ?_
      refine sj_callVd C 21 rfl dX7_agreeing_18 cv_X7_86 rfl (ct_X7_isGone _ hm i e k hv.1 hw.1 hlt) rfl rfl rfl ⟨_, _, kd_h, rfl, rfl, by decide⟩ ⟨rfl, rfl⟩ ?_
      refine sj_if_ne C 51 24 rfl rfl dX7_agreeing_21 (fun c_21 => ?_) (fun c_21 => ?_)
      · refine sj_iconstv C (0) 52 rfl dX7_agreeing_51 rfl ?_
        refine sj_ior C 53 rfl dX7_agreeing_52 ?_
        refine sj_istore_n_3 C 54 rfl dX7_agreeing_53 rfl rfl ?_
        refine sj_iinc_4 C 57 rfl dX7_agreeing_54 rfl rfl ?_
        refine sj_goto C 5 rfl dX7_agreeing_57 ?_
        have eb : sj_agb (sj_ia S (b 1)) i e k = false := by
          unfold sj_agb
          rw [sj_bin.mp c_21]
          rfl
        have ea : sj_agr (sj_ia S (b 1)) i e (k + 1) = sj_agr (sj_ia S (b 1)) i e k ||| (if sj_agb (sj_ia S (b 1)) i e k then 1 <<< (nI k &&& 31) else 0) := rfl
        have ih' := ih hlt
        rw [ea, eb] at ih'
        rw [sj_n1]
        exact ih'
      · refine sj_aload_n C 25 rfl dX7_agreeing_24 rfl rfl ?_
        refine sj_iload_n C 26 rfl dX7_agreeing_25 rfl rfl ?_
        refine sj_iload_n C 27 rfl dX7_agreeing_26 rfl rfl ?_
        refine sj_iload C 29 rfl dX7_agreeing_27 rfl ?_
        refine sj_callVd C 32 rfl dX7_agreeing_29 cv_X7_89 rfl (ct_X7_differ _ hm i e hv hw k hlt) rfl rfl rfl ⟨_, _, kd_h, rfl, rfl, by decide⟩ ⟨rfl, rfl⟩ ?_
        refine sj_aload_n C 33 rfl dX7_agreeing_32 rfl rfl ?_
        refine sj_getr C 36 rfl fd_X7_7 dX7_agreeing_33 kd_h rf_h_1 ?_
        refine sj_iconstv C (0) 37 rfl dX7_agreeing_36 rfl ?_
        refine sj_iload C 39 rfl dX7_agreeing_37 rfl ?_
        refine sj_iadd C 40 rfl dX7_agreeing_39 ?_
        rw [show (0 : Int32) + nI k = nI k from Int32.zero_add _]
        refine sj_iald C 41 rfl dX7_agreeing_40 kd_a1 (by show vp_in _ (sj_il S (b 1)); rw [il_a1]; exact vp_in_nI (by omega) (by omega)) ?_
        refine sj_icmp_gt C 51 44 rfl rfl dX7_agreeing_41 (fun c_41 => ?_) (fun c_41 => ?_)
        · refine sj_iconstv C (0) 52 rfl dX7_agreeing_51 rfl ?_
          refine sj_ior C 53 rfl dX7_agreeing_52 ?_
          refine sj_istore_n_3 C 54 rfl dX7_agreeing_53 rfl rfl ?_
          refine sj_iinc_4 C 57 rfl dX7_agreeing_54 rfl rfl ?_
          refine sj_goto C 5 rfl dX7_agreeing_57 ?_
          rw [nI_clamp (by omega)] at c_41
          have eb : sj_agb (sj_ia S (b 1)) i e k = false := by
            unfold sj_agb
            rw [sj_bi0.mp c_21, decide_eq_false (sj_nle.mpr c_41)]
            rfl
          have ea : sj_agr (sj_ia S (b 1)) i e (k + 1) = sj_agr (sj_ia S (b 1)) i e k ||| (if sj_agb (sj_ia S (b 1)) i e k then 1 <<< (nI k &&& 31) else 0) := rfl
          have ih' := ih hlt
          rw [ea, eb] at ih'
          rw [sj_n1]
          exact ih'
        · refine sj_iconstv C (1) 45 rfl dX7_agreeing_44 rfl ?_
          refine sj_iload C 47 rfl dX7_agreeing_45 rfl ?_
          refine sj_ishl C 48 rfl dX7_agreeing_47 ?_
          refine sj_goto C 52 rfl dX7_agreeing_48 ?_
          refine sj_ior C 53 rfl dX7_agreeing_52 ?_
          refine sj_istore_n_3 C 54 rfl dX7_agreeing_53 rfl rfl ?_
          refine sj_iinc_4 C 57 rfl dX7_agreeing_54 rfl rfl ?_
          refine sj_goto C 5 rfl dX7_agreeing_57 ?_
          rw [nI_clamp (by omega)] at c_41
          have eb : sj_agb (sj_ia S (b 1)) i e k = true := by
            unfold sj_agb
            rw [sj_bi0.mp c_21, decide_eq_true (sj_nlt.mp c_41)]
            rfl
          have ea : sj_agr (sj_ia S (b 1)) i e (k + 1) = sj_agr (sj_ia S (b 1)) i e k ||| (if sj_agb (sj_ia S (b 1)) i e k then 1 <<< (nI k &&& 31) else 0) := rfl
          have ih' := ih hlt
          rw [ea, eb] at ih'
          rw [sj_n1]
          exact ih'
  refine sj_iconstv C (0) 1 rfl dX7_agreeing_0 rfl ?_
  refine sj_istore_n_3 C 2 rfl dX7_agreeing_1 rfl rfl ?_
  refine sj_iconstv C (0) 3 rfl dX7_agreeing_2 rfl ?_
  refine sj_istore_4 C 5 rfl dX7_agreeing_3 rfl rfl ?_
  exact cut_5
set_option maxRecDepth 100000 in
set_option maxHeartbeats 4000000 in
theorem ct_X7_ones (l : Launch) (S : sj_St) (x : Int32) : sj_Ctr l mX7_ones [.int x] S (sj_eq (some (.int (sj_ones x))) S) := by
  refine sj_start ([some (.int x), none, none]) (by decide +kernel) rfl rfl (fun X hX C hR => ?_)
  subst hX
  have cut_4 : sj_G X S 0 0 [some (.int x), some (.int (sj_sum (fun k => (x >>> (nI k &&& 31)) &&& 1) 0)), some (.int (nI 0))] 4 [] := by
    refine sj_down (fun k => sj_G X S 0 0 [some (.int x), some (.int (sj_sum (fun k => (x >>> (nI k &&& 31)) &&& 1) k)), some (.int (nI k))] 4 []) 8 (fun k hk ih => ?_)
    refine sj_iload_n C 5 rfl dX7_ones_4 rfl rfl ?_
    refine sj_bipush C (8) 7 rfl dX7_ones_5 (by decide) ?_
    refine sj_icmp_ge C 24 10 rfl rfl dX7_ones_7 (fun c_7 => ?_) (fun c_7 => ?_)
    · refine sj_iload_n C 25 rfl dX7_ones_24 rfl rfl ?_
      refine sj_iret C hR rfl rfl dX7_ones_25 ?_
      refine ⟨congrArg (fun z => some (Value.int z)) ?_, rfl⟩
      have hke : k = 8 := by
        have h9 : ¬ k < 8 := fun h8 => nI_ge (b := 8) h8 (by omega) c_7
        omega
      subst hke
      rfl
    · have hlt : k < 8 := Nat.not_le.mp fun h9 => c_7 (nI_le (a := 8) h9 (by omega))
      refine sj_iload_n C 11 rfl dX7_ones_10 rfl rfl ?_
      refine sj_iload_n C 12 rfl dX7_ones_11 rfl rfl ?_
      refine sj_iload_n C 13 rfl dX7_ones_12 rfl rfl ?_
      refine sj_ishr C 14 rfl dX7_ones_13 ?_
      refine sj_iconstv C (1) 15 rfl dX7_ones_14 rfl ?_
      refine sj_iand C 16 rfl dX7_ones_15 ?_
      refine sj_iadd C 17 rfl dX7_ones_16 ?_
      refine sj_istore_n_1 C 18 rfl dX7_ones_17 rfl rfl ?_
      refine sj_iinc_2 C 21 rfl dX7_ones_18 rfl rfl ?_
      refine sj_goto C 4 rfl dX7_ones_21 ?_
      rw [sj_n1]
      exact ih hlt
  refine sj_iconstv C (0) 1 rfl dX7_ones_0 rfl ?_
  refine sj_istore_n_1 C 2 rfl dX7_ones_1 rfl rfl ?_
  refine sj_iconstv C (0) 3 rfl dX7_ones_2 rfl ?_
  refine sj_istore_n_2 C 4 rfl dX7_ones_3 rfl rfl ?_
  exact cut_4
set_option maxRecDepth 100000 in
set_option maxHeartbeats 4000000 in
theorem ct_X7_likeness (l : Launch) {S : sj_St} {h : Nat} {b : Nat → Nat} {m : Nat → Int32} (hm : sj_mm S h b m) (i e : Nat) (hv : sj_shv m i) (hw : sj_shv m e) : sj_Ctr l mX7_likeness [.ref h, .int (nI i), .int (nI e)] S (sj_eq (some (.int (sj_lik m i e))) S) := by
  refine sj_start ([some (.ref h), some (.int (nI i)), some (.int (nI e))]) (by decide +kernel) rfl rfl (fun X hX C hR => ?_)
  subst hX
  have hm0 := hm
  obtain ⟨hm', em⟩ := hm0
  subst em
  obtain ⟨kd_h, ⟨rf_h_1, kd_a1, il_a1⟩, ⟨rf_h_2, kd_a2, il_a2⟩, ⟨rf_h_3, kd_a3, il_a3⟩, ⟨rf_h_5, kd_a5, il_a5⟩, ⟨rf_h_7, kd_a7, il_a7⟩, ⟨rf_h_13, kd_a13, il_a13⟩, ⟨rf_h_15, kd_a15, il_a15⟩, hinj⟩ := hm'
  refine sj_aload_n C 1 rfl dX7_likeness_0 rfl rfl ?_
  refine sj_iload_n C 2 rfl dX7_likeness_1 rfl rfl ?_
  refine sj_iload_n C 3 rfl dX7_likeness_2 rfl rfl ?_
  refine sj_callVd C 6 rfl dX7_likeness_3 cv_X7_92 rfl (ct_X7_agreeing _ hm i e hv hw) rfl rfl rfl ⟨_, _, kd_h, rfl, rfl, by decide⟩ ⟨rfl, rfl⟩ ?_
  refine sj_callSd C 9 rfl dX7_likeness_6 cv_X7_95 rfl (ct_X7_ones _ _ _) rfl rfl rfl ⟨rfl, rfl⟩ ?_
  refine sj_iret C hR rfl rfl dX7_likeness_9 ?_
  exact ⟨rfl, rfl⟩
set_option maxRecDepth 100000 in
set_option maxHeartbeats 4000000 in
theorem ct_X7_trembles (l : Launch) {S : sj_St} {h : Nat} {b : Nat → Nat} {m : Nat → Int32} (hm : sj_mm S h b m) (i : Nat) (hv : sj_shv m i) : sj_Ctr l mX7_trembles [.ref h, .int (nI i)] S (sj_eq (some (.int (sj_bi (sj_trm m i)))) S) := by
  refine sj_start ([some (.ref h), some (.int (nI i))]) (by decide +kernel) rfl rfl (fun X hX C hR => ?_)
  subst hX
  have hm0 := hm
  obtain ⟨hm', em⟩ := hm0
  subst em
  obtain ⟨kd_h, ⟨rf_h_1, kd_a1, il_a1⟩, ⟨rf_h_2, kd_a2, il_a2⟩, ⟨rf_h_3, kd_a3, il_a3⟩, ⟨rf_h_5, kd_a5, il_a5⟩, ⟨rf_h_7, kd_a7, il_a7⟩, ⟨rf_h_13, kd_a13, il_a13⟩, ⟨rf_h_15, kd_a15, il_a15⟩, hinj⟩ := hm'
  obtain ⟨hi, hn, hn1, hn8, hh⟩ := id hv
  refine sj_aload_n C 1 rfl dX7_trembles_0 rfl rfl ?_
  refine sj_iload_n C 2 rfl dX7_trembles_1 rfl rfl ?_
  refine sj_iconstv C (4) 3 rfl dX7_trembles_2 rfl ?_
  refine sj_callVd C 6 rfl dX7_trembles_3 cv_X7_61 rfl (ct_X7_sumOf _ hm i 4 hi (by omega) hn hn8) rfl rfl rfl ⟨_, _, kd_h, rfl, rfl, by decide⟩ ⟨rfl, rfl⟩ ?_
  refine sj_aload_n C 7 rfl dX7_trembles_6 rfl rfl ?_
  refine sj_iload_n C 8 rfl dX7_trembles_7 rfl rfl ?_
  refine sj_iconstv C (1) 9 rfl dX7_trembles_8 rfl ?_
  refine sj_callVd C 12 rfl dX7_trembles_9 cv_X7_39 rfl (ct_X7_of _ hm i 1 hi (by omega)) rfl rfl rfl ⟨_, _, kd_h, rfl, rfl, by decide⟩ ⟨rfl, rfl⟩ ?_
  refine sj_aload_n C 13 rfl dX7_trembles_12 rfl rfl ?_
  refine sj_getr C 16 rfl fd_X7_7 dX7_trembles_13 kd_h rf_h_1 ?_
  refine sj_bipush C (7) 18 rfl dX7_trembles_16 (by decide) ?_
  refine sj_iald C 19 rfl dX7_trembles_18 kd_a1 (by show vp_in (nI 7) (sj_il S (b 1)); rw [il_a1]; exact vp_in_nI (by omega) (by omega)) ?_
  rw [show Int32.toNatClampNeg (7) = 7 from rfl]
  refine sj_imul C 20 rfl dX7_trembles_19 ?_
  refine sj_icmp_le C 27 23 rfl rfl dX7_trembles_20 (fun c_20 => ?_) (fun c_20 => ?_)
  · refine sj_iconstv C (0) 28 rfl dX7_trembles_27 rfl ?_
    refine sj_zret C hR rfl rfl rfl dX7_trembles_28 ?_
    refine ⟨congrArg (fun z => some (Value.int z)) ?_, rfl⟩
    unfold sj_trm
    rw [hn] at c_20
    rw [decide_eq_false (sj_nlt.mpr c_20)]
    rfl
  · refine sj_iconstv C (1) 24 rfl dX7_trembles_23 rfl ?_
    refine sj_goto C 28 rfl dX7_trembles_24 ?_
    refine sj_zret C hR rfl rfl rfl dX7_trembles_28 ?_
    refine ⟨congrArg (fun z => some (Value.int z)) ?_, rfl⟩
    unfold sj_trm
    rw [hn] at c_20
    rw [decide_eq_true (sj_nle.mp c_20)]
    rfl
