/-! THE REFERENCE: what it tells; undo and the snapshot; a sheet goes -/
theorem sj_fst_in {p : Nat → Bool} : ∀ n k, sj_fst p n k = -1 ∨ ∃ j, k ≤ j ∧ j < k + n ∧ p j = true ∧ sj_fst p n k = nI j
  | 0, _ => Or.inl rfl
  | n + 1, k => by
    by_cases h : p k = true
    · exact Or.inr ⟨k, by omega, by omega, h, if_pos h⟩
    · have e : sj_fst p (n + 1) k = sj_fst p n (k + 1) := if_neg h
      rw [e]
      rcases sj_fst_in n (k + 1) with h1 | ⟨j, h1, h2, h3, h4⟩
      · exact Or.inl h1
      · exact Or.inr ⟨j, by omega, by omega, h3, h4⟩
def sj_ts (m : Nat → Int32) (i : Nat) : Nat → Int32
  | 0 => sj_of m i 1
  | 1 => sj_of m i 0
  | 2 => sj_tot m i 2
  | 3 => sj_bi (sj_trm m i)
  | 4 => sj_hH m (-1) i
  | 5 => sj_oof m i
  | _ => sj_bi (sj_hf m i)
def sj_cps (m : Nat → Int32) (i e : Nat) : Nat → Int32
  | 0 => sj_lik m i e
  | 1 => sj_agr m i e 6
  | 2 => sj_bi (sj_a1 m i e)
  | 3 => sj_bi (sj_a1 m i e)
  | _ => sj_too m i e
def sj_tlo (m : Nat → Int32) (k w : Nat) : Int32 := if sj_tn (m 10) ≤ k then -1 else if w = 3 then sj_bi (sj_hld m k) else sj_oa m k w
def sj_tc (m : Nat → Int32) (q : Int32) : Nat → Int32
  | 0 => m 9
  | 1 => m 10
  | 2 => sj_lko m
  | 3 => sj_hds m
  | 4 => sj_moh m
  | 5 => sj_trs m
  | 6 => m 11
  | 7 => sj_lps m (sj_tn (m 9))
  | 17 => q
  | w => m (w - 8)
/-- the oaths of a sheet are dropped, from the k-th one down; how many -/
def sj_dl (i : Nat) : Nat → (Nat → Int32) → Int32 → (Nat → Int32) × Int32
  | 0, m, g => (m, g)
  | k + 1, m, g => if sj_oa m k 0 = nI i ∨ sj_oa m k 1 = nI i then sj_dl i k (sj_dO m k) (g + 1) else sj_dl i k m g
def sj_rn1 (f : Nat → Int32) (i k : Nat) : Nat → Int32 := upd f (14 + 3 * k) (f (14 + 3 * k) - sj_bi (decide (nI i < sj_oa f k 0)))
def sj_rn2 (f : Nat → Int32) (i k : Nat) : Nat → Int32 := upd f (14 + 3 * k + 1) (f (14 + 3 * k + 1) - sj_bi (decide (nI i < sj_oa f k 1)))
def sj_rn (m : Nat → Int32) (i : Nat) : Nat → Nat → Int32
  | 0 => m
  | k + 1 => sj_rn2 (sj_rn1 (sj_rn m i k) i k) i k
/-- a sheet is taken out: the number of sheets, and the numbers from its place up to j, one sheet down -/
def sj_ct (m : Nat → Int32) (n i j : Nat) : Nat → Int32 := fun q => if q = 9 then nI n else if 98 + 42 * i ≤ q ∧ q < j then m (q + 42) else m q
theorem sj_ct_0 (m : Nat → Int32) (n i : Nat) : sj_ct m n i (98 + 42 * i) = upd m 9 (nI n) := by
  funext q
  unfold sj_ct upd
  by_cases h : q = 9
  · rw [if_pos h, if_pos h]
  · rw [if_neg h, if_neg h, if_neg (by omega)]
theorem sj_ct_3 (m : Nat → Int32) (n i j : Nat) (h : 98 + 42 * i ≤ j) : sj_ct m n i j (j + 42) = m (j + 42) := by
  unfold sj_ct
  rw [if_neg (by omega), if_neg (by omega)]
theorem sj_ct_s (m : Nat → Int32) (n i j : Nat) (h : 98 + 42 * i ≤ j) : upd (sj_ct m n i j) j (m (j + 42)) = sj_ct m n i (j + 1) := by
  funext q
  unfold upd sj_ct
  by_cases h1 : q = j
  · subst h1
    rw [if_pos rfl, if_neg (by omega), if_pos ⟨h, by omega⟩]
  · rw [if_neg h1]
    by_cases h2 : q = 9
    · rw [if_pos h2, if_pos h2]
    · rw [if_neg h2, if_neg h2]
      by_cases h3 : 98 + 42 * i ≤ q ∧ q < j
      · rw [if_pos h3, if_pos ⟨h3.1, by omega⟩]
      · rw [if_neg h3, if_neg (fun h4 => h3 ⟨h4.1, by omega⟩)]
theorem sj_rn_lo (m : Nat → Int32) (i : Nat) {j : Nat} (hj : j < 14) : ∀ k, sj_rn m i k j = m j
  | 0 => rfl
  | k + 1 => (sj_upd_ne _ _ (by omega)).trans ((sj_upd_ne _ _ (by omega)).trans (sj_rn_lo m i hj k))
theorem sj_dO_10 (m : Nat → Int32) (k : Nat) : sj_dO m k 10 = nI (sj_tn (m 10) - 1) := by
  unfold sj_dO sj_dj
  exact if_pos rfl
theorem sj_dO_9 (m : Nat → Int32) (k : Nat) {j : Nat} (h : j < 10) : sj_dO m k j = m j := by
  unfold sj_dO sj_dj
  rw [if_neg (by omega), if_neg (by omega)]
theorem sj_tn_nI {n : Nat} (h : n < 2 ^ 31) : sj_tn (nI n) = n := nI_clamp h
/-- what is dropped first: the numbers stay within their bounds -/
theorem sj_dl_ok (i : Nat) : ∀ (k : Nat) (m : Nat → Int32) (g : Int32), m 10 = nI (sj_tn (m 10)) → sj_tn (m 10) ≤ 28 → k ≤ sj_tn (m 10) → (sj_dl i k m g).1 10 = nI (sj_tn ((sj_dl i k m g).1 10)) ∧ sj_tn ((sj_dl i k m g).1 10) ≤ 28 ∧ (sj_dl i k m g).1 9 = m 9
  | 0, m, g, h1, h2, _ => ⟨h1, h2, rfl⟩
  | k + 1, m, g, h1, h2, h3 => by
    by_cases h : sj_oa m k 0 = nI i ∨ sj_oa m k 1 = nI i
    · have e : sj_dl i (k + 1) m g = sj_dl i k (sj_dO m k) (g + 1) := if_pos h
      have e1 : sj_tn (sj_dO m k 10) = sj_tn (m 10) - 1 := by rw [sj_dO_10]; exact sj_tn_nI (by omega)
      rw [e]
      have ih := sj_dl_ok i k (sj_dO m k) (g + 1) (by rw [e1]; exact sj_dO_10 m k) (by omega) (by omega)
      exact ⟨ih.1, ih.2.1, ih.2.2.trans (sj_dO_9 m k (by omega))⟩
    · have e : sj_dl i (k + 1) m g = sj_dl i k m g := if_neg h
      rw [e]
      exact sj_dl_ok i k m g h1 h2 (by omega)
def sj_dp1 (m : Nat → Int32) (i : Nat) : Nat → Int32 := (sj_dl i (sj_tn (m 10)) m 0).1
def sj_dp2 (m : Nat → Int32) (i : Nat) : Nat → Int32 := sj_rn (sj_dp1 m i) i (sj_tn (sj_dp1 m i 10))
def sj_drp (m : Nat → Int32) (i : Nat) : Nat → Int32 := sj_ct (sj_dp2 m i) (sj_tn (m 9) - 1) i (98 + 42 * (sj_tn (m 9) - 1))
def sj_drn (m : Nat → Int32) (i : Nat) : Int32 := (sj_dl i (sj_tn (m 10)) m 0).2
set_option maxRecDepth 100000 in
set_option maxHeartbeats 4000000 in
theorem ct_X7_tolerance (l : Launch) {S : sj_St} {h : Nat} {b : Nat → Nat} {m : Nat → Int32} (hm : sj_mm S h b m) (i e : Nat) (hv : sj_shv m i) (hw : sj_shv m e) (j : Nat) (hj : j < 6) : sj_Ctr l mX7_tolerance [.ref h, .int (nI i), .int (nI e), .int (nI j)] S (sj_eq (some (.int (sj_tol m i e j))) S) := by
  refine sj_start ([some (.ref h), some (.int (nI i)), some (.int (nI e)), some (.int (nI j)), none]) (by decide +kernel) rfl rfl (fun X hX C hR => ?_)
  subst hX
  have hm0 := hm
  obtain ⟨hm', em⟩ := hm0
  subst em
  obtain ⟨kd_h, ⟨rf_h_1, kd_a1, il_a1⟩, ⟨rf_h_2, kd_a2, il_a2⟩, ⟨rf_h_3, kd_a3, il_a3⟩, ⟨rf_h_5, kd_a5, il_a5⟩, ⟨rf_h_7, kd_a7, il_a7⟩, ⟨rf_h_13, kd_a13, il_a13⟩, ⟨rf_h_15, kd_a15, il_a15⟩, hinj⟩ := hm'
  refine sj_aload_n C 1 rfl dX7_tolerance_0 rfl rfl ?_
  refine sj_iload_n C 2 rfl dX7_tolerance_1 rfl rfl ?_
  refine sj_iload_n C 3 rfl dX7_tolerance_2 rfl rfl ?_
  refine sj_iload_n C 4 rfl dX7_tolerance_3 rfl rfl ?_
  refine sj_callVd C 7 rfl dX7_tolerance_4 cv_X7_89 rfl (ct_X7_differ _ hm i e hv hw j hj) rfl rfl rfl ⟨_, _, kd_h, rfl, rfl, by decide⟩ ⟨rfl, rfl⟩ ?_
  refine sj_istore_4 C 9 rfl dX7_tolerance_7 rfl rfl ?_
  refine sj_aload_n C 10 rfl dX7_tolerance_9 rfl rfl ?_
  refine sj_iload_n C 11 rfl dX7_tolerance_10 rfl rfl ?_
  refine sj_iload_n C 12 rfl dX7_tolerance_11 rfl rfl ?_
  refine sj_iload_n C 13 rfl dX7_tolerance_12 rfl rfl ?_
  refine sj_callVd C 16 rfl dX7_tolerance_13 cv_X7_86 rfl (ct_X7_isGone _ hm i e j hv.1 hw.1 hj) rfl rfl rfl ⟨_, _, kd_h, rfl, rfl, by decide⟩ ⟨rfl, rfl⟩ ?_
  refine sj_if_eq C 23 19 rfl rfl dX7_tolerance_16 (fun c_16 => ?_) (fun c_16 => ?_)
  · refine sj_iload C 25 rfl dX7_tolerance_23 rfl ?_
    refine sj_if_ge C 32 28 rfl rfl dX7_tolerance_25 (fun c_25 => ?_) (fun c_25 => ?_)
    · refine sj_iload C 34 rfl dX7_tolerance_32 rfl ?_
      refine sj_iret C hR rfl rfl dX7_tolerance_34 ?_
      refine ⟨congrArg (fun z => some (Value.int z)) ?_, rfl⟩
      unfold sj_tol
      rw [sj_bi0.mp c_16, if_neg Bool.false_ne_true, if_neg (sj_nlt.mpr c_25)]
    · refine sj_iconstv C (0) 29 rfl dX7_tolerance_28 rfl ?_
      refine sj_goto C 34 rfl dX7_tolerance_29 ?_
      refine sj_iret C hR rfl rfl dX7_tolerance_34 ?_
      refine ⟨congrArg (fun z => some (Value.int z)) ?_, rfl⟩
      unfold sj_tol
      rw [sj_bi0.mp c_16, if_neg Bool.false_ne_true, if_pos (sj_nle.mp c_25)]
  · refine sj_iconstv C (-1) 20 rfl dX7_tolerance_19 rfl ?_
    refine sj_goto C 34 rfl dX7_tolerance_20 ?_
    refine sj_iret C hR rfl rfl dX7_tolerance_34 ?_
    refine ⟨congrArg (fun z => some (Value.int z)) ?_, rfl⟩
    unfold sj_tol
    rw [if_pos (sj_bin.mp c_16)]
set_option maxRecDepth 100000 in
set_option maxHeartbeats 4000000 in
theorem ct_X7_tellsStroke (l : Launch) {S : sj_St} {h : Nat} {b : Nat → Nat} {m : Nat → Int32} (hm : sj_mm S h b m) (i : Nat) (hv : sj_shv m i) (k w : Nat) (hk : k < 8) (hw : w < 5) : sj_Ctr l mX7_tellsStroke [.ref h, .int (nI i), .int (nI k), .int (nI w)] S (sj_eq (some (.int (sj_tst m i k w))) S) := by
  refine sj_start ([some (.ref h), some (.int (nI i)), some (.int (nI k)), some (.int (nI w))]) (by decide +kernel) rfl rfl (fun X hX C hR => ?_)
  subst hX
  have hm0 := hm
  obtain ⟨hm', em⟩ := hm0
  subst em
  obtain ⟨kd_h, ⟨rf_h_1, kd_a1, il_a1⟩, ⟨rf_h_2, kd_a2, il_a2⟩, ⟨rf_h_3, kd_a3, il_a3⟩, ⟨rf_h_5, kd_a5, il_a5⟩, ⟨rf_h_7, kd_a7, il_a7⟩, ⟨rf_h_13, kd_a13, il_a13⟩, ⟨rf_h_15, kd_a15, il_a15⟩, hinj⟩ := hm'
  obtain ⟨hi, hn, hn1, hn8, hh⟩ := id hv
  refine sj_iload_n C 1 rfl dX7_tellsStroke_0 rfl rfl ?_
  refine sj_aload_n C 2 rfl dX7_tellsStroke_1 rfl rfl ?_
  refine sj_iload_n C 3 rfl dX7_tellsStroke_2 rfl rfl ?_
  refine sj_iconstv C (1) 4 rfl dX7_tellsStroke_3 rfl ?_
  refine sj_callVd C 7 rfl dX7_tellsStroke_4 cv_X7_39 rfl (ct_X7_of _ hm i 1 hi (by omega)) rfl rfl rfl ⟨_, _, kd_h, rfl, rfl, by decide⟩ ⟨rfl, rfl⟩ ?_
  rw [hn]
  refine sj_icmp_lt C 12 10 rfl rfl dX7_tellsStroke_7 (fun c_7 => ?_) (fun c_7 => ?_)
  · refine sj_aload_n C 13 rfl dX7_tellsStroke_12 rfl rfl ?_
    refine sj_iload_n C 14 rfl dX7_tellsStroke_13 rfl rfl ?_
    refine sj_iload_n C 15 rfl dX7_tellsStroke_14 rfl rfl ?_
    refine sj_iload_n C 16 rfl dX7_tellsStroke_15 rfl rfl ?_
    refine sj_callVd C 19 rfl dX7_tellsStroke_16 cv_X7_57 rfl (ct_X7_ofStroke _ hm i k w hi hk hw) rfl rfl rfl ⟨_, _, kd_h, rfl, rfl, by decide⟩ ⟨rfl, rfl⟩ ?_
    refine sj_iload_n C 20 rfl dX7_tellsStroke_19 rfl rfl ?_
    refine sj_if_ne C 28 23 rfl rfl dX7_tellsStroke_20 (fun c_20 => ?_) (fun c_20 => ?_)
    · refine sj_iconstv C (0) 29 rfl dX7_tellsStroke_28 rfl ?_
      refine sj_iadd C 30 rfl dX7_tellsStroke_29 ?_
      refine sj_iret C hR rfl rfl dX7_tellsStroke_30 ?_
      refine ⟨congrArg (fun z => some (Value.int z)) ?_, rfl⟩
      unfold sj_tst
      rw [if_neg (sj_nle.mpr c_7), if_neg (fun e9 => c_20 (by rw [e9]; rfl))]
    · refine sj_bipush C (100) 25 rfl dX7_tellsStroke_23 (by decide) ?_
      refine sj_goto C 29 rfl dX7_tellsStroke_25 ?_
      refine sj_iadd C 30 rfl dX7_tellsStroke_29 ?_
      refine sj_iret C hR rfl rfl dX7_tellsStroke_30 ?_
      refine ⟨congrArg (fun z => some (Value.int z)) ?_, rfl⟩
      unfold sj_tst
      rw [if_neg (sj_nle.mpr c_7), if_pos ((nI_eq (b := 0) (by omega) (by omega)).mp c_20)]
  · refine sj_iconstv C (-1) 11 rfl dX7_tellsStroke_10 rfl ?_
    refine sj_iret C hR rfl rfl dX7_tellsStroke_11 ?_
    refine ⟨congrArg (fun z => some (Value.int z)) ?_, rfl⟩
    unfold sj_tst
    rw [if_pos (sj_nlt.mp c_7)]
set_option maxRecDepth 100000 in
set_option maxHeartbeats 4000000 in
theorem ct_X7_tellsOathOf (l : Launch) {S : sj_St} {h : Nat} {b : Nat → Nat} {m : Nat → Int32} (hm : sj_mm S h b m) (hv : sj_oav m) (i e : Nat) : sj_Ctr l mX7_tellsOathOf [.ref h, .int (nI i), .int (nI e)] S (sj_eq (some (.int (sj_too m i e))) S) := by
  refine sj_start ([some (.ref h), some (.int (nI i)), some (.int (nI e)), none]) (by decide +kernel) rfl rfl (fun X hX C hR => ?_)
  subst hX
  have hm0 := hm
  obtain ⟨hm', em⟩ := hm0
  subst em
  obtain ⟨kd_h, ⟨rf_h_1, kd_a1, il_a1⟩, ⟨rf_h_2, kd_a2, il_a2⟩, ⟨rf_h_3, kd_a3, il_a3⟩, ⟨rf_h_5, kd_a5, il_a5⟩, ⟨rf_h_7, kd_a7, il_a7⟩, ⟨rf_h_13, kd_a13, il_a13⟩, ⟨rf_h_15, kd_a15, il_a15⟩, hinj⟩ := hm'
  obtain ⟨⟨h9, hn8⟩, ⟨h10, hn28⟩, hoa⟩ := id hv
  refine sj_aload_n C 1 rfl dX7_tellsOathOf_0 rfl rfl ?_
  refine sj_iload_n C 2 rfl dX7_tellsOathOf_1 rfl rfl ?_
  refine sj_iload_n C 3 rfl dX7_tellsOathOf_2 rfl rfl ?_
  refine sj_callVd C 6 rfl dX7_tellsOathOf_3 cv_X7_109 rfl (ct_X7_findOath _ hm hv i e) rfl rfl rfl ⟨_, _, kd_h, rfl, rfl, by decide⟩ ⟨rfl, rfl⟩ ?_
  refine sj_istore_n_3 C 7 rfl dX7_tellsOathOf_6 rfl rfl ?_
  refine sj_iload_n C 8 rfl dX7_tellsOathOf_7 rfl rfl ?_
  refine sj_iconstv C (-1) 9 rfl dX7_tellsOathOf_8 rfl ?_
  refine sj_icmp_ne C 16 12 rfl rfl dX7_tellsOathOf_9 (fun c_9 => ?_) (fun c_9 => ?_)
  · obtain ⟨j, hj, hfj⟩ : ∃ j, j < sj_tn ((sj_ia S (b 1)) 10) ∧ sj_fo (sj_ia S (b 1)) i e = nI j := by
      rcases sj_fst_in (p := sj_fp (sj_ia S (b 1)) i e) (sj_tn ((sj_ia S (b 1)) 10)) 0 with h8 | ⟨j, -, h8, -, h7⟩
      · exact absurd h8 c_9
      · exact ⟨j, by omega, h7⟩
    rw [hfj]
    refine sj_aload_n C 17 rfl dX7_tellsOathOf_16 rfl rfl ?_
    refine sj_iload_n C 18 rfl dX7_tellsOathOf_17 rfl rfl ?_
    refine sj_iconstv C (2) 19 rfl dX7_tellsOathOf_18 rfl ?_
    refine sj_callVd C 22 rfl dX7_tellsOathOf_19 cv_X7_98 rfl (ct_X7_ofOath _ hm j 2 (by omega) (by omega)) rfl rfl rfl ⟨_, _, kd_h, rfl, rfl, by decide⟩ ⟨rfl, rfl⟩ ?_
    refine sj_iret C hR rfl rfl dX7_tellsOathOf_22 ?_
    refine ⟨congrArg (fun z => some (Value.int z)) ?_, rfl⟩
    unfold sj_too
    rw [if_neg c_9, hfj, sj_tn_nI (by omega)]
  · refine sj_iconstv C (-1) 13 rfl dX7_tellsOathOf_12 rfl ?_
    refine sj_goto C 22 rfl dX7_tellsOathOf_13 ?_
    refine sj_iret C hR rfl rfl dX7_tellsOathOf_22 ?_
    refine ⟨congrArg (fun z => some (Value.int z)) ?_, rfl⟩
    unfold sj_too
    rw [if_pos c_9]
set_option maxRecDepth 100000 in
set_option maxHeartbeats 4000000 in
theorem ct_X7_tellsSheet (l : Launch) {S : sj_St} {h : Nat} {b : Nat → Nat} {m : Nat → Int32} (hm : sj_mm S h b m) (hv : sj_oav m) (i w : Nat) (hvi : sj_shv m i) (hw : w < 7) : sj_Ctr l mX7_tellsSheet [.ref h, .int (nI i), .int (nI w)] S (sj_scr (some (.int (sj_ts m i w))) S b) := by
  refine sj_start ([some (.ref h), some (.int (nI i)), some (.int (nI w))]) (by decide +kernel) rfl rfl (fun X hX C hR => ?_)
  subst hX
  have hm0 := hm
  obtain ⟨hm', em⟩ := hm0
  subst em
  obtain ⟨kd_h, ⟨rf_h_1, kd_a1, il_a1⟩, ⟨rf_h_2, kd_a2, il_a2⟩, ⟨rf_h_3, kd_a3, il_a3⟩, ⟨rf_h_5, kd_a5, il_a5⟩, ⟨rf_h_7, kd_a7, il_a7⟩, ⟨rf_h_13, kd_a13, il_a13⟩, ⟨rf_h_15, kd_a15, il_a15⟩, hinj⟩ := hm'
  obtain ⟨⟨h9, hn8⟩, ⟨h10, hn28⟩, hoa⟩ := id hv
  obtain ⟨hi, hn, hn1, hn8i, hh⟩ := id hvi
  have hn8 := hn8i
  refine sj_iload_n C 1 rfl dX7_tellsSheet_0 rfl rfl ?_
  obtain rfl | rfl | rfl | rfl | rfl | rfl | rfl : w = 0 ∨ w = 1 ∨ w = 2 ∨ w = 3 ∨ w = 4 ∨ w = 5 ∨ w = 6 := by omega
  · refine sj_tableIn C 40 dX7_tellsSheet_1 (by decide) (by decide) rfl rfl ?_
    refine sj_aload_n C 41 rfl dX7_tellsSheet_40 rfl rfl ?_
    refine sj_iload_n C 42 rfl dX7_tellsSheet_41 rfl rfl ?_
    refine sj_iconstv C (1) 43 rfl dX7_tellsSheet_42 rfl ?_
    refine sj_callVd C 46 rfl dX7_tellsSheet_43 cv_X7_39 rfl (ct_X7_of _ hm i 1 hi (by omega)) rfl rfl rfl ⟨_, _, kd_h, rfl, rfl, by decide⟩ ⟨rfl, rfl⟩ ?_
    refine sj_iret C hR rfl rfl dX7_tellsSheet_46 ?_
    refine ⟨congrArg (fun z => some (Value.int z)) ?_, _, (sj_sIa_id S (b 15)).symm⟩
    rfl
  · refine sj_tableIn C 47 dX7_tellsSheet_1 (by decide) (by decide) rfl rfl ?_
    refine sj_aload_n C 48 rfl dX7_tellsSheet_47 rfl rfl ?_
    refine sj_iload_n C 49 rfl dX7_tellsSheet_48 rfl rfl ?_
    refine sj_iconstv C (0) 50 rfl dX7_tellsSheet_49 rfl ?_
    refine sj_callVd C 53 rfl dX7_tellsSheet_50 cv_X7_39 rfl (ct_X7_of _ hm i 0 hi (by omega)) rfl rfl rfl ⟨_, _, kd_h, rfl, rfl, by decide⟩ ⟨rfl, rfl⟩ ?_
    refine sj_iret C hR rfl rfl dX7_tellsSheet_53 ?_
    refine ⟨congrArg (fun z => some (Value.int z)) ?_, _, (sj_sIa_id S (b 15)).symm⟩
    rfl
  · refine sj_tableIn C 54 dX7_tellsSheet_1 (by decide) (by decide) rfl rfl ?_
    refine sj_aload_n C 55 rfl dX7_tellsSheet_54 rfl rfl ?_
    refine sj_iload_n C 56 rfl dX7_tellsSheet_55 rfl rfl ?_
    refine sj_iconstv C (2) 57 rfl dX7_tellsSheet_56 rfl ?_
    refine sj_callVd C 60 rfl dX7_tellsSheet_57 cv_X7_61 rfl (ct_X7_sumOf _ hm i 2 hi (by omega) hn (by omega)) rfl rfl rfl ⟨_, _, kd_h, rfl, rfl, by decide⟩ ⟨rfl, rfl⟩ ?_
    refine sj_iret C hR rfl rfl dX7_tellsSheet_60 ?_
    refine ⟨congrArg (fun z => some (Value.int z)) ?_, _, (sj_sIa_id S (b 15)).symm⟩
    rfl
  · refine sj_tableIn C 61 dX7_tellsSheet_1 (by decide) (by decide) rfl rfl ?_
    refine sj_aload_n C 62 rfl dX7_tellsSheet_61 rfl rfl ?_
    refine sj_iload_n C 63 rfl dX7_tellsSheet_62 rfl rfl ?_
    refine sj_callVd C 66 rfl dX7_tellsSheet_63 cv_X7_116 rfl (ct_X7_trembles _ hm i hvi) rfl rfl rfl ⟨_, _, kd_h, rfl, rfl, by decide⟩ ⟨rfl, rfl⟩ ?_
    refine sj_if_eq C 73 69 rfl rfl dX7_tellsSheet_66 (fun c_66 => ?_) (fun c_66 => ?_)
    · refine sj_iconstv C (0) 74 rfl dX7_tellsSheet_73 rfl ?_
      refine sj_iret C hR rfl rfl dX7_tellsSheet_74 ?_
      refine ⟨congrArg (fun z => some (Value.int z)) ?_, _, (sj_sIa_id S (b 15)).symm⟩
      show _ = sj_bi _
      rw [sj_bi0.mp c_66]
      rfl
    · refine sj_iconstv C (1) 70 rfl dX7_tellsSheet_69 rfl ?_
      refine sj_goto C 74 rfl dX7_tellsSheet_70 ?_
      refine sj_iret C hR rfl rfl dX7_tellsSheet_74 ?_
      refine ⟨congrArg (fun z => some (Value.int z)) ?_, _, (sj_sIa_id S (b 15)).symm⟩
      show _ = sj_bi _
      rw [sj_bin.mp c_66]
      rfl
  · refine sj_tableIn C 75 dX7_tellsSheet_1 (by decide) (by decide) rfl rfl ?_
    refine sj_aload_n C 76 rfl dX7_tellsSheet_75 rfl rfl ?_
    refine sj_iload_n C 77 rfl dX7_tellsSheet_76 rfl rfl ?_
    refine sj_callVp C 80 rfl dX7_tellsSheet_77 cv_X7_200 rfl (ct_X7_handOf _ hm hv i hi) rfl rfl rfl ⟨_, _, kd_h, rfl, rfl, by decide⟩ ⟨rfl, rfl⟩ (fun v_77 S_77 hp_77 => ?_)
    obtain ⟨rfl, g_77, rfl⟩ := hp_77
    refine sj_iret C hR rfl rfl dX7_tellsSheet_80 ?_
    exact ⟨rfl, _, rfl⟩
  · refine sj_tableIn C 81 dX7_tellsSheet_1 (by decide) (by decide) rfl rfl ?_
    refine sj_aload_n C 82 rfl dX7_tellsSheet_81 rfl rfl ?_
    refine sj_iload_n C 83 rfl dX7_tellsSheet_82 rfl rfl ?_
    refine sj_callVd C 86 rfl dX7_tellsSheet_83 cv_X7_203 rfl (ct_X7_oathsOf _ hm hv i) rfl rfl rfl ⟨_, _, kd_h, rfl, rfl, by decide⟩ ⟨rfl, rfl⟩ ?_
    refine sj_iret C hR rfl rfl dX7_tellsSheet_86 ?_
    refine ⟨congrArg (fun z => some (Value.int z)) ?_, _, (sj_sIa_id S (b 15)).symm⟩
    rfl
  · refine sj_tableOut C 87 dX7_tellsSheet_1 (by decide) rfl ?_
    refine sj_aload_n C 88 rfl dX7_tellsSheet_87 rfl rfl ?_
    refine sj_iload_n C 89 rfl dX7_tellsSheet_88 rfl rfl ?_
    refine sj_callVd C 92 rfl dX7_tellsSheet_89 cv_X7_79 rfl (ct_X7_hasFaded _ hm i hi) rfl rfl rfl ⟨_, _, kd_h, rfl, rfl, by decide⟩ ⟨rfl, rfl⟩ ?_
    refine sj_if_eq C 99 95 rfl rfl dX7_tellsSheet_92 (fun c_92 => ?_) (fun c_92 => ?_)
    · refine sj_iconstv C (0) 100 rfl dX7_tellsSheet_99 rfl ?_
      refine sj_iret C hR rfl rfl dX7_tellsSheet_100 ?_
      refine ⟨congrArg (fun z => some (Value.int z)) ?_, _, (sj_sIa_id S (b 15)).symm⟩
      show _ = sj_bi _
      rw [sj_bi0.mp c_92]
      rfl
    · refine sj_iconstv C (1) 96 rfl dX7_tellsSheet_95 rfl ?_
      refine sj_goto C 100 rfl dX7_tellsSheet_96 ?_
      refine sj_iret C hR rfl rfl dX7_tellsSheet_100 ?_
      refine ⟨congrArg (fun z => some (Value.int z)) ?_, _, (sj_sIa_id S (b 15)).symm⟩
      show _ = sj_bi _
      rw [sj_bin.mp c_92]
      rfl
set_option maxRecDepth 100000 in
set_option maxHeartbeats 4000000 in
theorem ct_X7_compares (l : Launch) {S : sj_St} {h : Nat} {b : Nat → Nat} {m : Nat → Int32} (hm : sj_mm S h b m) (hv : sj_oav m) (i e w : Nat) (hvi : sj_shv m i) (hve : sj_shv m e) (hw : w < 5) : sj_Ctr l mX7_compares [.ref h, .int (nI i), .int (nI e), .int (nI w)] S (sj_scr (some (.int (sj_cps m i e w))) S b) := by
  refine sj_start ([some (.ref h), some (.int (nI i)), some (.int (nI e)), some (.int (nI w))]) (by decide +kernel) rfl rfl (fun X hX C hR => ?_)
  subst hX
  have hm0 := hm
  obtain ⟨hm', em⟩ := hm0
  subst em
  obtain ⟨kd_h, ⟨rf_h_1, kd_a1, il_a1⟩, ⟨rf_h_2, kd_a2, il_a2⟩, ⟨rf_h_3, kd_a3, il_a3⟩, ⟨rf_h_5, kd_a5, il_a5⟩, ⟨rf_h_7, kd_a7, il_a7⟩, ⟨rf_h_13, kd_a13, il_a13⟩, ⟨rf_h_15, kd_a15, il_a15⟩, hinj⟩ := hm'
  obtain ⟨⟨h9, hn8⟩, ⟨h10, hn28⟩, hoa⟩ := id hv
  refine sj_iload_n C 1 rfl dX7_compares_0 rfl rfl ?_
  obtain rfl | rfl | rfl | rfl | rfl : w = 0 ∨ w = 1 ∨ w = 2 ∨ w = 3 ∨ w = 4 := by omega
  · refine sj_tableIn C 32 dX7_compares_1 (by decide) (by decide) rfl rfl ?_
    refine sj_aload_n C 33 rfl dX7_compares_32 rfl rfl ?_
    refine sj_iload_n C 34 rfl dX7_compares_33 rfl rfl ?_
    refine sj_iload_n C 35 rfl dX7_compares_34 rfl rfl ?_
    refine sj_callVd C 38 rfl dX7_compares_35 cv_X7_119 rfl (ct_X7_likeness _ hm i e hvi hve) rfl rfl rfl ⟨_, _, kd_h, rfl, rfl, by decide⟩ ⟨rfl, rfl⟩ ?_
    refine sj_iret C hR rfl rfl dX7_compares_38 ?_
    refine ⟨congrArg (fun z => some (Value.int z)) ?_, _, (sj_sIa_id S (b 15)).symm⟩
    rfl
  · refine sj_tableIn C 39 dX7_compares_1 (by decide) (by decide) rfl rfl ?_
    refine sj_aload_n C 40 rfl dX7_compares_39 rfl rfl ?_
    refine sj_iload_n C 41 rfl dX7_compares_40 rfl rfl ?_
    refine sj_iload_n C 42 rfl dX7_compares_41 rfl rfl ?_
    refine sj_callVd C 45 rfl dX7_compares_42 cv_X7_92 rfl (ct_X7_agreeing _ hm i e hvi hve) rfl rfl rfl ⟨_, _, kd_h, rfl, rfl, by decide⟩ ⟨rfl, rfl⟩ ?_
    refine sj_iret C hR rfl rfl dX7_compares_45 ?_
    refine ⟨congrArg (fun z => some (Value.int z)) ?_, _, (sj_sIa_id S (b 15)).symm⟩
    rfl
  · refine sj_tableIn C 46 dX7_compares_1 (by decide) (by decide) rfl rfl ?_
    refine sj_aload_n C 47 rfl dX7_compares_46 rfl rfl ?_
    refine sj_iload_n C 48 rfl dX7_compares_47 rfl rfl ?_
    refine sj_iload_n C 49 rfl dX7_compares_48 rfl rfl ?_
    refine sj_callVp C 52 rfl dX7_compares_49 cv_X7_112 rfl (ct_X7_areOfOne _ hm hv i e hvi.1 hve.1) rfl rfl rfl ⟨_, _, kd_h, rfl, rfl, by decide⟩ ⟨rfl, rfl⟩ (fun v_49 S_49 hp_49 => ?_)
    obtain ⟨rfl, g_49, rfl⟩ := hp_49
    refine sj_if_eq C 59 55 rfl rfl dX7_compares_52 (fun c_52 => ?_) (fun c_52 => ?_)
    · refine sj_iconstv C (0) 60 rfl dX7_compares_59 rfl ?_
      refine sj_iret C hR rfl rfl dX7_compares_60 ?_
      refine ⟨congrArg (fun z => some (Value.int z)) ?_, _, rfl⟩
      show _ = sj_bi _
      rw [sj_bi0.mp c_52]
      rfl
    · refine sj_iconstv C (1) 56 rfl dX7_compares_55 rfl ?_
      refine sj_goto C 60 rfl dX7_compares_56 ?_
      refine sj_iret C hR rfl rfl dX7_compares_60 ?_
      refine ⟨congrArg (fun z => some (Value.int z)) ?_, _, rfl⟩
      show _ = sj_bi _
      rw [sj_bin.mp c_52]
      rfl
  · refine sj_tableIn C 46 dX7_compares_1 (by decide) (by decide) rfl rfl ?_
    refine sj_aload_n C 47 rfl dX7_compares_46 rfl rfl ?_
    refine sj_iload_n C 48 rfl dX7_compares_47 rfl rfl ?_
    refine sj_iload_n C 49 rfl dX7_compares_48 rfl rfl ?_
    refine sj_callVp C 52 rfl dX7_compares_49 cv_X7_112 rfl (ct_X7_areOfOne _ hm hv i e hvi.1 hve.1) rfl rfl rfl ⟨_, _, kd_h, rfl, rfl, by decide⟩ ⟨rfl, rfl⟩ (fun v_49 S_49 hp_49 => ?_)
    obtain ⟨rfl, g_49, rfl⟩ := hp_49
    refine sj_if_eq C 59 55 rfl rfl dX7_compares_52 (fun c_52 => ?_) (fun c_52 => ?_)
    · refine sj_iconstv C (0) 60 rfl dX7_compares_59 rfl ?_
      refine sj_iret C hR rfl rfl dX7_compares_60 ?_
      refine ⟨congrArg (fun z => some (Value.int z)) ?_, _, rfl⟩
      show _ = sj_bi _
      rw [sj_bi0.mp c_52]
      rfl
    · refine sj_iconstv C (1) 56 rfl dX7_compares_55 rfl ?_
      refine sj_goto C 60 rfl dX7_compares_56 ?_
      refine sj_iret C hR rfl rfl dX7_compares_60 ?_
      refine ⟨congrArg (fun z => some (Value.int z)) ?_, _, rfl⟩
      show _ = sj_bi _
      rw [sj_bin.mp c_52]
      rfl
  · refine sj_tableOut C 61 dX7_compares_1 (by decide) rfl ?_
    refine sj_aload_n C 62 rfl dX7_compares_61 rfl rfl ?_
    refine sj_iload_n C 63 rfl dX7_compares_62 rfl rfl ?_
    refine sj_iload_n C 64 rfl dX7_compares_63 rfl rfl ?_
    refine sj_callVd C 67 rfl dX7_compares_64 cv_X7_212 rfl (ct_X7_tellsOathOf _ hm hv i e) rfl rfl rfl ⟨_, _, kd_h, rfl, rfl, by decide⟩ ⟨rfl, rfl⟩ ?_
    refine sj_iret C hR rfl rfl dX7_compares_67 ?_
    refine ⟨congrArg (fun z => some (Value.int z)) ?_, _, (sj_sIa_id S (b 15)).symm⟩
    rfl
set_option maxRecDepth 100000 in
set_option maxHeartbeats 4000000 in
theorem ct_X7_tellsOath (l : Launch) {S : sj_St} {h : Nat} {b : Nat → Nat} {m : Nat → Int32} (hm : sj_mm S h b m) (hv : sj_oav m) (k w : Nat) (hk : k < 2 ^ 31) (hw : w < 4) : sj_Ctr l mX7_tellsOath [.ref h, .int (nI k), .int (nI w)] S (sj_scr (some (.int (sj_tlo m k w))) S b) := by
  refine sj_start ([some (.ref h), some (.int (nI k)), some (.int (nI w))]) (by decide +kernel) rfl rfl (fun X hX C hR => ?_)
  subst hX
  have hm0 := hm
  obtain ⟨hm', em⟩ := hm0
  subst em
  obtain ⟨kd_h, ⟨rf_h_1, kd_a1, il_a1⟩, ⟨rf_h_2, kd_a2, il_a2⟩, ⟨rf_h_3, kd_a3, il_a3⟩, ⟨rf_h_5, kd_a5, il_a5⟩, ⟨rf_h_7, kd_a7, il_a7⟩, ⟨rf_h_13, kd_a13, il_a13⟩, ⟨rf_h_15, kd_a15, il_a15⟩, hinj⟩ := hm'
  obtain ⟨⟨h9, hn8⟩, ⟨h10, hn28⟩, hoa⟩ := id hv
  refine sj_iload_n C 1 rfl dX7_tellsOath_0 rfl rfl ?_
  refine sj_aload_n C 2 rfl dX7_tellsOath_1 rfl rfl ?_
  refine sj_getr C 5 rfl fd_X7_7 dX7_tellsOath_2 kd_h rf_h_1 ?_
  refine sj_bipush C (10) 7 rfl dX7_tellsOath_5 (by decide) ?_
  refine sj_iald C 8 rfl dX7_tellsOath_7 kd_a1 (by show vp_in (nI 10) (sj_il S (b 1)); rw [il_a1]; exact vp_in_nI (by omega) (by omega)) ?_
  rw [show Int32.toNatClampNeg (10) = 10 from rfl, h10]
  refine sj_icmp_lt C 15 11 rfl rfl dX7_tellsOath_8 (fun c_8 => ?_) (fun c_8 => ?_)
  · have hkn : k < sj_tn ((sj_ia S (b 1)) 10) := (nI_ltI hk (by omega)).mp c_8
    refine sj_iload_n C 16 rfl dX7_tellsOath_15 rfl rfl ?_
    refine sj_iconstv C (3) 17 rfl dX7_tellsOath_16 rfl ?_
    refine sj_icmp_ne C 36 20 rfl rfl dX7_tellsOath_17 (fun c_17 => ?_) (fun c_17 => ?_)
    · refine sj_aload_n C 37 rfl dX7_tellsOath_36 rfl rfl ?_
      refine sj_iload_n C 38 rfl dX7_tellsOath_37 rfl rfl ?_
      refine sj_iload_n C 39 rfl dX7_tellsOath_38 rfl rfl ?_
      refine sj_callVd C 42 rfl dX7_tellsOath_39 cv_X7_98 rfl (ct_X7_ofOath _ hm k w (by omega) (by have h3 : ¬ w = 3 := fun e9 => c_17 (by rw [e9]; rfl); omega)) rfl rfl rfl ⟨_, _, kd_h, rfl, rfl, by decide⟩ ⟨rfl, rfl⟩ ?_
      refine sj_iret C hR rfl rfl dX7_tellsOath_42 ?_
      refine ⟨congrArg (fun z => some (Value.int z)) ?_, _, (sj_sIa_id S (b 15)).symm⟩
      unfold sj_tlo
      rw [if_neg (by omega), if_neg (fun e9 => c_17 (by rw [e9]; rfl))]
    · refine sj_aload_n C 21 rfl dX7_tellsOath_20 rfl rfl ?_
      refine sj_iload_n C 22 rfl dX7_tellsOath_21 rfl rfl ?_
      refine sj_callVp C 25 rfl dX7_tellsOath_22 cv_X7_218 rfl (ct_X7_holds _ hm hv k hkn) rfl rfl rfl ⟨_, _, kd_h, rfl, rfl, by decide⟩ ⟨rfl, rfl⟩ (fun v_22 S_22 hp_22 => ?_)
      obtain ⟨rfl, g_22, rfl⟩ := hp_22
      refine sj_if_eq C 32 28 rfl rfl dX7_tellsOath_25 (fun c_25 => ?_) (fun c_25 => ?_)
      · refine sj_iconstv C (0) 33 rfl dX7_tellsOath_32 rfl ?_
        refine sj_goto C 42 rfl dX7_tellsOath_33 ?_
        refine sj_iret C hR rfl rfl dX7_tellsOath_42 ?_
        refine ⟨congrArg (fun z => some (Value.int z)) ?_, _, rfl⟩
        unfold sj_tlo
        rw [if_neg (by omega), if_pos ((nI_eq (b := 3) (by omega) (by omega)).mp c_17), sj_bi0.mp c_25]
        rfl
      · refine sj_iconstv C (1) 29 rfl dX7_tellsOath_28 rfl ?_
        refine sj_goto C 42 rfl dX7_tellsOath_29 ?_
        refine sj_iret C hR rfl rfl dX7_tellsOath_42 ?_
        refine ⟨congrArg (fun z => some (Value.int z)) ?_, _, rfl⟩
        unfold sj_tlo
        rw [if_neg (by omega), if_pos ((nI_eq (b := 3) (by omega) (by omega)).mp c_17), sj_bin.mp c_25]
        rfl
  · refine sj_iconstv C (-1) 12 rfl dX7_tellsOath_11 rfl ?_
    refine sj_goto C 42 rfl dX7_tellsOath_12 ?_
    refine sj_iret C hR rfl rfl dX7_tellsOath_42 ?_
    refine ⟨congrArg (fun z => some (Value.int z)) ?_, _, (sj_sIa_id S (b 15)).symm⟩
    unfold sj_tlo
    rw [if_pos ((nI_leI (by omega) hk).mp (sj_nlt.mp c_8))]
set_option maxRecDepth 100000 in
set_option maxHeartbeats 4000000 in
theorem ct_X7_tellsCount (l : Launch) {S : sj_St} {h : Nat} {b : Nat → Nat} {m : Nat → Int32} (hm : sj_mm S h b m) (hv : sj_oav m) (hs : sj_shs m) (w : Nat) (hw : w < 18) : sj_Ctr l mX7_tellsCount [.ref h, .int (nI w)] S (sj_scr (some (.int (sj_tc m (sj_fi S h 4) w))) S b) := by
  refine sj_start ([some (.ref h), some (.int (nI w))]) (by decide +kernel) rfl rfl (fun X hX C hR => ?_)
  subst hX
  have hm0 := hm
  obtain ⟨hm', em⟩ := hm0
  subst em
  obtain ⟨kd_h, ⟨rf_h_1, kd_a1, il_a1⟩, ⟨rf_h_2, kd_a2, il_a2⟩, ⟨rf_h_3, kd_a3, il_a3⟩, ⟨rf_h_5, kd_a5, il_a5⟩, ⟨rf_h_7, kd_a7, il_a7⟩, ⟨rf_h_13, kd_a13, il_a13⟩, ⟨rf_h_15, kd_a15, il_a15⟩, hinj⟩ := hm'
  obtain ⟨⟨h9, hn8⟩, ⟨h10, hn28⟩, hoa⟩ := id hv
  refine sj_iload_n C 1 rfl dX7_tellsCount_0 rfl rfl ?_
  obtain rfl | rfl | rfl | rfl | rfl | rfl | rfl | rfl | rfl | rfl | rfl | rfl | rfl | rfl | rfl | rfl | rfl | rfl : w = 0 ∨ w = 1 ∨ w = 2 ∨ w = 3 ∨ w = 4 ∨ w = 5 ∨ w = 6 ∨ w = 7 ∨ w = 8 ∨ w = 9 ∨ w = 10 ∨ w = 11 ∨ w = 12 ∨ w = 13 ∨ w = 14 ∨ w = 15 ∨ w = 16 ∨ w = 17 := by omega
  · refine sj_tableIn C 88 dX7_tellsCount_1 (by decide) (by decide) rfl rfl ?_
    refine sj_aload_n C 89 rfl dX7_tellsCount_88 rfl rfl ?_
    refine sj_getr C 92 rfl fd_X7_7 dX7_tellsCount_89 kd_h rf_h_1 ?_
    refine sj_bipush C (9) 94 rfl dX7_tellsCount_92 (by decide) ?_
    refine sj_iload_n C 95 rfl dX7_tellsCount_94 rfl rfl ?_
    refine sj_iadd C 96 rfl dX7_tellsCount_95 ?_
    refine sj_iald C 97 rfl dX7_tellsCount_96 kd_a1 (by show vp_in _ (sj_il S (b 1)); rw [il_a1]; unfold vp_in; decide) ?_
    refine sj_iret C hR rfl rfl dX7_tellsCount_97 ?_
    refine ⟨congrArg (fun z => some (Value.int z)) ?_, _, (sj_sIa_id S (b 15)).symm⟩
    rfl
  · refine sj_tableIn C 88 dX7_tellsCount_1 (by decide) (by decide) rfl rfl ?_
    refine sj_aload_n C 89 rfl dX7_tellsCount_88 rfl rfl ?_
    refine sj_getr C 92 rfl fd_X7_7 dX7_tellsCount_89 kd_h rf_h_1 ?_
    refine sj_bipush C (9) 94 rfl dX7_tellsCount_92 (by decide) ?_
    refine sj_iload_n C 95 rfl dX7_tellsCount_94 rfl rfl ?_
    refine sj_iadd C 96 rfl dX7_tellsCount_95 ?_
    refine sj_iald C 97 rfl dX7_tellsCount_96 kd_a1 (by show vp_in _ (sj_il S (b 1)); rw [il_a1]; unfold vp_in; decide) ?_
    refine sj_iret C hR rfl rfl dX7_tellsCount_97 ?_
    refine ⟨congrArg (fun z => some (Value.int z)) ?_, _, (sj_sIa_id S (b 15)).symm⟩
    rfl
  · refine sj_tableIn C 98 dX7_tellsCount_1 (by decide) (by decide) rfl rfl ?_
    refine sj_aload_n C 99 rfl dX7_tellsCount_98 rfl rfl ?_
    refine sj_callVd C 102 rfl dX7_tellsCount_99 cv_X7_224 rfl (ct_X7_likeOaths _ hm hv) rfl rfl rfl ⟨_, _, kd_h, rfl, rfl, by decide⟩ ⟨rfl, rfl⟩ ?_
    refine sj_iret C hR rfl rfl dX7_tellsCount_102 ?_
    refine ⟨congrArg (fun z => some (Value.int z)) ?_, _, (sj_sIa_id S (b 15)).symm⟩
    rfl
  · refine sj_tableIn C 103 dX7_tellsCount_1 (by decide) (by decide) rfl rfl ?_
    refine sj_aload_n C 104 rfl dX7_tellsCount_103 rfl rfl ?_
    refine sj_callVp C 107 rfl dX7_tellsCount_104 cv_X7_125 rfl (ct_X7_hands _ hm hv) rfl rfl rfl ⟨_, _, kd_h, rfl, rfl, by decide⟩ ⟨rfl, rfl⟩ (fun v_104 S_104 hp_104 => ?_)
    obtain ⟨rfl, g_104, rfl⟩ := hp_104
    refine sj_iret C hR rfl rfl dX7_tellsCount_107 ?_
    exact ⟨rfl, _, rfl⟩
  · refine sj_tableIn C 108 dX7_tellsCount_1 (by decide) (by decide) rfl rfl ?_
    refine sj_aload_n C 109 rfl dX7_tellsCount_108 rfl rfl ?_
    refine sj_callVp C 112 rfl dX7_tellsCount_109 cv_X7_227 rfl (ct_X7_mostOfHand _ hm hv) rfl rfl rfl ⟨_, _, kd_h, rfl, rfl, by decide⟩ ⟨rfl, rfl⟩ (fun v_109 S_109 hp_109 => ?_)
    obtain ⟨rfl, g_109, rfl⟩ := hp_109
    refine sj_iret C hR rfl rfl dX7_tellsCount_112 ?_
    exact ⟨rfl, _, rfl⟩
  · refine sj_tableIn C 113 dX7_tellsCount_1 (by decide) (by decide) rfl rfl ?_
    refine sj_aload_n C 114 rfl dX7_tellsCount_113 rfl rfl ?_
    refine sj_callVd C 117 rfl dX7_tellsCount_114 cv_X7_230 rfl (ct_X7_trembling _ hm hv hs) rfl rfl rfl ⟨_, _, kd_h, rfl, rfl, by decide⟩ ⟨rfl, rfl⟩ ?_
    refine sj_iret C hR rfl rfl dX7_tellsCount_117 ?_
    refine ⟨congrArg (fun z => some (Value.int z)) ?_, _, (sj_sIa_id S (b 15)).symm⟩
    rfl
  · refine sj_tableIn C 118 dX7_tellsCount_1 (by decide) (by decide) rfl rfl ?_
    refine sj_aload_n C 119 rfl dX7_tellsCount_118 rfl rfl ?_
    refine sj_getr C 122 rfl fd_X7_7 dX7_tellsCount_119 kd_h rf_h_1 ?_
    refine sj_bipush C (11) 124 rfl dX7_tellsCount_122 (by decide) ?_
    refine sj_iald C 125 rfl dX7_tellsCount_124 kd_a1 (by show vp_in (nI 11) (sj_il S (b 1)); rw [il_a1]; exact vp_in_nI (by omega) (by omega)) ?_
    refine sj_iret C hR rfl rfl dX7_tellsCount_125 ?_
    refine ⟨congrArg (fun z => some (Value.int z)) ?_, _, (sj_sIa_id S (b 15)).symm⟩
    rfl
  · refine sj_tableIn C 126 dX7_tellsCount_1 (by decide) (by decide) rfl rfl ?_
    refine sj_aload_n C 127 rfl dX7_tellsCount_126 rfl rfl ?_
    refine sj_callVd C 130 rfl dX7_tellsCount_127 cv_X7_233 rfl (ct_X7_likePairs _ hm hv hs) rfl rfl rfl ⟨_, _, kd_h, rfl, rfl, by decide⟩ ⟨rfl, rfl⟩ ?_
    refine sj_iret C hR rfl rfl dX7_tellsCount_130 ?_
    refine ⟨congrArg (fun z => some (Value.int z)) ?_, _, (sj_sIa_id S (b 15)).symm⟩
    rfl
  · refine sj_tableIn C 136 dX7_tellsCount_1 (by decide) (by decide) rfl rfl ?_
    refine sj_aload_n C 137 rfl dX7_tellsCount_136 rfl rfl ?_
    refine sj_getr C 140 rfl fd_X7_7 dX7_tellsCount_137 kd_h rf_h_1 ?_
    refine sj_iconstv C (0) 141 rfl dX7_tellsCount_140 rfl ?_
    refine sj_iload_n C 142 rfl dX7_tellsCount_141 rfl rfl ?_
    refine sj_iadd C 143 rfl dX7_tellsCount_142 ?_
    refine sj_bipush C (8) 145 rfl dX7_tellsCount_143 (by decide) ?_
    refine sj_isub C 146 rfl dX7_tellsCount_145 ?_
    refine sj_iald C 147 rfl dX7_tellsCount_146 kd_a1 (by show vp_in _ (sj_il S (b 1)); rw [il_a1]; unfold vp_in; decide) ?_
    refine sj_iret C hR rfl rfl dX7_tellsCount_147 ?_
    refine ⟨congrArg (fun z => some (Value.int z)) ?_, _, (sj_sIa_id S (b 15)).symm⟩
    rfl
  · refine sj_tableIn C 136 dX7_tellsCount_1 (by decide) (by decide) rfl rfl ?_
    refine sj_aload_n C 137 rfl dX7_tellsCount_136 rfl rfl ?_
    refine sj_getr C 140 rfl fd_X7_7 dX7_tellsCount_137 kd_h rf_h_1 ?_
    refine sj_iconstv C (0) 141 rfl dX7_tellsCount_140 rfl ?_
    refine sj_iload_n C 142 rfl dX7_tellsCount_141 rfl rfl ?_
    refine sj_iadd C 143 rfl dX7_tellsCount_142 ?_
    refine sj_bipush C (8) 145 rfl dX7_tellsCount_143 (by decide) ?_
    refine sj_isub C 146 rfl dX7_tellsCount_145 ?_
    refine sj_iald C 147 rfl dX7_tellsCount_146 kd_a1 (by show vp_in _ (sj_il S (b 1)); rw [il_a1]; unfold vp_in; decide) ?_
    refine sj_iret C hR rfl rfl dX7_tellsCount_147 ?_
    refine ⟨congrArg (fun z => some (Value.int z)) ?_, _, (sj_sIa_id S (b 15)).symm⟩
    rfl
  · refine sj_tableIn C 136 dX7_tellsCount_1 (by decide) (by decide) rfl rfl ?_
    refine sj_aload_n C 137 rfl dX7_tellsCount_136 rfl rfl ?_
    refine sj_getr C 140 rfl fd_X7_7 dX7_tellsCount_137 kd_h rf_h_1 ?_
    refine sj_iconstv C (0) 141 rfl dX7_tellsCount_140 rfl ?_
    refine sj_iload_n C 142 rfl dX7_tellsCount_141 rfl rfl ?_
    refine sj_iadd C 143 rfl dX7_tellsCount_142 ?_
    refine sj_bipush C (8) 145 rfl dX7_tellsCount_143 (by decide) ?_
    refine sj_isub C 146 rfl dX7_tellsCount_145 ?_
    refine sj_iald C 147 rfl dX7_tellsCount_146 kd_a1 (by show vp_in _ (sj_il S (b 1)); rw [il_a1]; unfold vp_in; decide) ?_
    refine sj_iret C hR rfl rfl dX7_tellsCount_147 ?_
    refine ⟨congrArg (fun z => some (Value.int z)) ?_, _, (sj_sIa_id S (b 15)).symm⟩
    rfl
  · refine sj_tableIn C 136 dX7_tellsCount_1 (by decide) (by decide) rfl rfl ?_
    refine sj_aload_n C 137 rfl dX7_tellsCount_136 rfl rfl ?_
    refine sj_getr C 140 rfl fd_X7_7 dX7_tellsCount_137 kd_h rf_h_1 ?_
    refine sj_iconstv C (0) 141 rfl dX7_tellsCount_140 rfl ?_
    refine sj_iload_n C 142 rfl dX7_tellsCount_141 rfl rfl ?_
    refine sj_iadd C 143 rfl dX7_tellsCount_142 ?_
    refine sj_bipush C (8) 145 rfl dX7_tellsCount_143 (by decide) ?_
    refine sj_isub C 146 rfl dX7_tellsCount_145 ?_
    refine sj_iald C 147 rfl dX7_tellsCount_146 kd_a1 (by show vp_in _ (sj_il S (b 1)); rw [il_a1]; unfold vp_in; decide) ?_
    refine sj_iret C hR rfl rfl dX7_tellsCount_147 ?_
    refine ⟨congrArg (fun z => some (Value.int z)) ?_, _, (sj_sIa_id S (b 15)).symm⟩
    rfl
  · refine sj_tableIn C 136 dX7_tellsCount_1 (by decide) (by decide) rfl rfl ?_
    refine sj_aload_n C 137 rfl dX7_tellsCount_136 rfl rfl ?_
    refine sj_getr C 140 rfl fd_X7_7 dX7_tellsCount_137 kd_h rf_h_1 ?_
    refine sj_iconstv C (0) 141 rfl dX7_tellsCount_140 rfl ?_
    refine sj_iload_n C 142 rfl dX7_tellsCount_141 rfl rfl ?_
    refine sj_iadd C 143 rfl dX7_tellsCount_142 ?_
    refine sj_bipush C (8) 145 rfl dX7_tellsCount_143 (by decide) ?_
    refine sj_isub C 146 rfl dX7_tellsCount_145 ?_
    refine sj_iald C 147 rfl dX7_tellsCount_146 kd_a1 (by show vp_in _ (sj_il S (b 1)); rw [il_a1]; unfold vp_in; decide) ?_
    refine sj_iret C hR rfl rfl dX7_tellsCount_147 ?_
    refine ⟨congrArg (fun z => some (Value.int z)) ?_, _, (sj_sIa_id S (b 15)).symm⟩
    rfl
  · refine sj_tableIn C 136 dX7_tellsCount_1 (by decide) (by decide) rfl rfl ?_
    refine sj_aload_n C 137 rfl dX7_tellsCount_136 rfl rfl ?_
    refine sj_getr C 140 rfl fd_X7_7 dX7_tellsCount_137 kd_h rf_h_1 ?_
    refine sj_iconstv C (0) 141 rfl dX7_tellsCount_140 rfl ?_
    refine sj_iload_n C 142 rfl dX7_tellsCount_141 rfl rfl ?_
    refine sj_iadd C 143 rfl dX7_tellsCount_142 ?_
    refine sj_bipush C (8) 145 rfl dX7_tellsCount_143 (by decide) ?_
    refine sj_isub C 146 rfl dX7_tellsCount_145 ?_
    refine sj_iald C 147 rfl dX7_tellsCount_146 kd_a1 (by show vp_in _ (sj_il S (b 1)); rw [il_a1]; unfold vp_in; decide) ?_
    refine sj_iret C hR rfl rfl dX7_tellsCount_147 ?_
    refine ⟨congrArg (fun z => some (Value.int z)) ?_, _, (sj_sIa_id S (b 15)).symm⟩
    rfl
  · refine sj_tableIn C 136 dX7_tellsCount_1 (by decide) (by decide) rfl rfl ?_
    refine sj_aload_n C 137 rfl dX7_tellsCount_136 rfl rfl ?_
    refine sj_getr C 140 rfl fd_X7_7 dX7_tellsCount_137 kd_h rf_h_1 ?_
    refine sj_iconstv C (0) 141 rfl dX7_tellsCount_140 rfl ?_
    refine sj_iload_n C 142 rfl dX7_tellsCount_141 rfl rfl ?_
    refine sj_iadd C 143 rfl dX7_tellsCount_142 ?_
    refine sj_bipush C (8) 145 rfl dX7_tellsCount_143 (by decide) ?_
    refine sj_isub C 146 rfl dX7_tellsCount_145 ?_
    refine sj_iald C 147 rfl dX7_tellsCount_146 kd_a1 (by show vp_in _ (sj_il S (b 1)); rw [il_a1]; unfold vp_in; decide) ?_
    refine sj_iret C hR rfl rfl dX7_tellsCount_147 ?_
    refine ⟨congrArg (fun z => some (Value.int z)) ?_, _, (sj_sIa_id S (b 15)).symm⟩
    rfl
  · refine sj_tableIn C 136 dX7_tellsCount_1 (by decide) (by decide) rfl rfl ?_
    refine sj_aload_n C 137 rfl dX7_tellsCount_136 rfl rfl ?_
    refine sj_getr C 140 rfl fd_X7_7 dX7_tellsCount_137 kd_h rf_h_1 ?_
    refine sj_iconstv C (0) 141 rfl dX7_tellsCount_140 rfl ?_
    refine sj_iload_n C 142 rfl dX7_tellsCount_141 rfl rfl ?_
    refine sj_iadd C 143 rfl dX7_tellsCount_142 ?_
    refine sj_bipush C (8) 145 rfl dX7_tellsCount_143 (by decide) ?_
    refine sj_isub C 146 rfl dX7_tellsCount_145 ?_
    refine sj_iald C 147 rfl dX7_tellsCount_146 kd_a1 (by show vp_in _ (sj_il S (b 1)); rw [il_a1]; unfold vp_in; decide) ?_
    refine sj_iret C hR rfl rfl dX7_tellsCount_147 ?_
    refine ⟨congrArg (fun z => some (Value.int z)) ?_, _, (sj_sIa_id S (b 15)).symm⟩
    rfl
  · refine sj_tableIn C 136 dX7_tellsCount_1 (by decide) (by decide) rfl rfl ?_
    refine sj_aload_n C 137 rfl dX7_tellsCount_136 rfl rfl ?_
    refine sj_getr C 140 rfl fd_X7_7 dX7_tellsCount_137 kd_h rf_h_1 ?_
    refine sj_iconstv C (0) 141 rfl dX7_tellsCount_140 rfl ?_
    refine sj_iload_n C 142 rfl dX7_tellsCount_141 rfl rfl ?_
    refine sj_iadd C 143 rfl dX7_tellsCount_142 ?_
    refine sj_bipush C (8) 145 rfl dX7_tellsCount_143 (by decide) ?_
    refine sj_isub C 146 rfl dX7_tellsCount_145 ?_
    refine sj_iald C 147 rfl dX7_tellsCount_146 kd_a1 (by show vp_in _ (sj_il S (b 1)); rw [il_a1]; unfold vp_in; decide) ?_
    refine sj_iret C hR rfl rfl dX7_tellsCount_147 ?_
    refine ⟨congrArg (fun z => some (Value.int z)) ?_, _, (sj_sIa_id S (b 15)).symm⟩
    rfl
  · refine sj_tableIn C 131 dX7_tellsCount_1 (by decide) (by decide) rfl rfl ?_
    refine sj_aload_n C 132 rfl dX7_tellsCount_131 rfl rfl ?_
    refine sj_getI C 135 rfl fd_X7_43 dX7_tellsCount_132 kd_h ?_
    refine sj_iret C hR rfl rfl dX7_tellsCount_135 ?_
    refine ⟨congrArg (fun z => some (Value.int z)) ?_, _, (sj_sIa_id S (b 15)).symm⟩
    rfl
set_option maxRecDepth 100000 in
set_option maxHeartbeats 4000000 in
theorem ct_X7_undo_0 (l : Launch) {S : sj_St} {h : Nat} {b : Nat → Nat} {m : Nat → Int32} (hm : sj_mm S h b m) (hq4 : sj_fi S h 4 = nI 0) : sj_Ctr l mX7_undo [.ref h] S (sj_eq (some (.int 0)) (sj_wFi (sj_wFi S h 0 0) h 0 1)) := by
  refine sj_start ([some (.ref h), none]) (by decide +kernel) rfl rfl (fun X hX C hR => ?_)
  subst hX
  have hm0 := hm
  obtain ⟨hm', em⟩ := hm0
  subst em
  obtain ⟨kd_h, ⟨rf_h_1, kd_a1, il_a1⟩, ⟨rf_h_2, kd_a2, il_a2⟩, ⟨rf_h_3, kd_a3, il_a3⟩, ⟨rf_h_5, kd_a5, il_a5⟩, ⟨rf_h_7, kd_a7, il_a7⟩, ⟨rf_h_13, kd_a13, il_a13⟩, ⟨rf_h_15, kd_a15, il_a15⟩, hinj⟩ := hm'
  refine sj_aload_n C 1 rfl dX7_undo_0 rfl rfl ?_
  refine sj_iconstv C (0) 2 rfl dX7_undo_1 rfl ?_
  refine sj_putI C 5 rfl fd_X7_31 dX7_undo_2 rfl rfl kd_h ?_
  refine sj_aload_n C 6 rfl dX7_undo_5 rfl rfl ?_
  refine sj_getI C 9 rfl fd_X7_43 dX7_undo_6 kd_h ?_
  rw [show sj_fi (sj_wFi S h 0 0) h 4 = sj_fi S h 4 from sj_fi_wFi_k S h 0 (by omega)]
  refine sj_if_ne C 18 12 rfl rfl dX7_undo_9 (fun c_9 => ?_) (fun c_9 => ?_)
  · exact absurd hq4 c_9
  · refine sj_aload_n C 13 rfl dX7_undo_12 rfl rfl ?_
    refine sj_iconstv C (1) 14 rfl dX7_undo_13 rfl ?_
    refine sj_callVd C 17 rfl dX7_undo_14 cv_X7_46 rfl (ct_X7_fails _ (sj_mm_f hm _ _ _) 1) rfl rfl rfl ⟨_, _, kd_h, rfl, rfl, by decide⟩ ⟨rfl, rfl⟩ ?_
    refine sj_iret C hR rfl rfl dX7_undo_17 ?_
    exact ⟨rfl, rfl⟩
set_option maxRecDepth 100000 in
set_option maxHeartbeats 4000000 in
theorem ct_X7_undo_s (l : Launch) {S : sj_St} {h : Nat} {b : Nat → Nat} {m : Nat → Int32} (hm : sj_mm S h b m) (q : Nat) (hq : q ≤ 5) (hq4 : sj_fi S h 4 = nI (q + 1)) : sj_Ctr l mX7_undo [.ref h] S (sj_eq (some (.int (nI q))) (sj_sIa (sj_wFi (sj_wFi S h 0 0) h 4 (nI q)) (b 1) (sj_cp 434 (fun j => (sj_ia S (b 3)) (434 * q + j)) m))) := by
  refine sj_start ([some (.ref h), none]) (by decide +kernel) rfl rfl (fun X hX C hR => ?_)
  subst hX
  have hm0 := hm
  obtain ⟨hm', em⟩ := hm0
  subst em
  obtain ⟨kd_h, ⟨rf_h_1, kd_a1, il_a1⟩, ⟨rf_h_2, kd_a2, il_a2⟩, ⟨rf_h_3, kd_a3, il_a3⟩, ⟨rf_h_5, kd_a5, il_a5⟩, ⟨rf_h_7, kd_a7, il_a7⟩, ⟨rf_h_13, kd_a13, il_a13⟩, ⟨rf_h_15, kd_a15, il_a15⟩, hinj⟩ := hm'
  have cut_30 : ∀ S', S' = (sj_sIa (sj_wFi (sj_wFi S h 0 0) h 4 (nI q)) (b 1) (sj_cp 0 (fun j => (sj_ia S (b 3)) (434 * q + j)) (sj_ia S (b 1)))) → sj_G X S' 0 0 [some (.ref h), some (.int (nI 0))] 30 [] := by
    refine sj_down (fun k => ∀ S', S' = (sj_sIa (sj_wFi (sj_wFi S h 0 0) h 4 (nI q)) (b 1) (sj_cp k (fun j => (sj_ia S (b 3)) (434 * q + j)) (sj_ia S (b 1)))) → sj_G X S' 0 0 [some (.ref h), some (.int (nI k))] 30 []) 434 (fun k hk ih => ?_)
    intro S' hS'
    subst hS'
    have esrc : sj_ia (sj_sIa (sj_wFi (sj_wFi S h 0 0) h 4 (nI q)) (b 1) (sj_cp k (fun j => (sj_ia S (b 3)) (434 * q + j)) (sj_ia S (b 1)))) (b 3) = (sj_ia S (b 3)) := sj_ia_sIa_ne _ _ (sj_mo_ne hm.1 (i := 3) (j := 1) (by omega) (by omega) (by omega))
    have efi : sj_fi (sj_sIa (sj_wFi (sj_wFi S h 0 0) h 4 (nI q)) (b 1) (sj_cp k (fun j => (sj_ia S (b 3)) (434 * q + j)) (sj_ia S (b 1)))) h 4 = nI q := sj_fi_wFi _ h 4 (nI q)
    have eidx : sj_fi (sj_sIa (sj_wFi (sj_wFi S h 0 0) h 4 (nI q)) (b 1) (sj_cp k (fun j => (sj_ia S (b 3)) (434 * q + j)) (sj_ia S (b 1)))) h 4 * 434 + nI k = nI (434 * q + k) := by
      rw [efi, show (434 : Int32) = nI 434 from rfl, sj_nmul, nI_add, Nat.mul_comm]
    refine sj_iload_n C 31 rfl dX7_undo_30 rfl rfl ?_
    refine sj_sipush C (434) 34 rfl dX7_undo_31 (by decide) ?_
    refine sj_icmp_ge C 64 37 rfl rfl dX7_undo_34 (fun c_34 => ?_) (fun c_34 => ?_)
    · have hkn : k = 434 := by
        have h8 : ¬ k < 434 := fun h7 => nI_ge (b := 434) h7 (by omega) c_34
        omega
      subst hkn
      refine sj_aload_n C 65 rfl dX7_undo_64 rfl rfl ?_
      refine sj_getI C 68 rfl fd_X7_43 dX7_undo_65 kd_h ?_
      refine sj_iret C hR rfl rfl dX7_undo_68 ?_
      refine ⟨?_, rfl⟩
      rw [efi]
    · have hlt : k < 434 := Nat.not_le.mp fun h8 => c_34 (nI_le (a := 434) h8 (by omega))
      refine sj_aload_n C 38 rfl dX7_undo_37 rfl rfl ?_
      refine sj_getr C 41 rfl fd_X7_7 dX7_undo_38 kd_h rf_h_1 ?_
      refine sj_iload_n C 42 rfl dX7_undo_41 rfl rfl ?_
      refine sj_aload_n C 43 rfl dX7_undo_42 rfl rfl ?_
      refine sj_getr C 46 rfl fd_X7_16 dX7_undo_43 kd_h rf_h_3 ?_
      refine sj_aload_n C 47 rfl dX7_undo_46 rfl rfl ?_
      refine sj_getI C 50 rfl fd_X7_43 dX7_undo_47 kd_h ?_
      refine sj_sipush C (434) 53 rfl dX7_undo_50 (by decide) ?_
      refine sj_imul C 54 rfl dX7_undo_53 ?_
      refine sj_iload_n C 55 rfl dX7_undo_54 rfl rfl ?_
      refine sj_iadd C 56 rfl dX7_undo_55 ?_
      rw [eidx]
      refine sj_iald C 57 rfl dX7_undo_56 kd_a3 (by show vp_in (nI (434 * q + k)) (sj_il S (b 3)); rw [il_a3]; exact vp_in_nI (by omega) (by omega)) ?_
      refine sj_iast C 58 rfl dX7_undo_57 kd_a1 (by show vp_in (nI k) (sj_il S (b 1)); rw [il_a1]; exact vp_in_nI (by omega) (by omega)) ?_
      refine sj_iinc_1 C 61 rfl dX7_undo_58 rfl rfl ?_
      refine sj_goto C 30 rfl dX7_undo_61 ?_
      rw [sj_n1]
      refine ih hlt _ ?_
      rw [sj_wIa_sIa, nI_clamp (by omega), nI_clamp (by omega), esrc]
      exact congrArg (sj_sIa (sj_wFi (sj_wFi S h 0 0) h 4 (nI q)) (b 1)) (sj_cp_s k (fun j => (sj_ia S (b 3)) (434 * q + j)) (sj_ia S (b 1)))
  refine sj_aload_n C 1 rfl dX7_undo_0 rfl rfl ?_
  refine sj_iconstv C (0) 2 rfl dX7_undo_1 rfl ?_
  refine sj_putI C 5 rfl fd_X7_31 dX7_undo_2 rfl rfl kd_h ?_
  refine sj_aload_n C 6 rfl dX7_undo_5 rfl rfl ?_
  refine sj_getI C 9 rfl fd_X7_43 dX7_undo_6 kd_h ?_
  rw [show sj_fi (sj_wFi S h 0 0) h 4 = sj_fi S h 4 from sj_fi_wFi_k S h 0 (by omega)]
  refine sj_if_ne C 18 12 rfl rfl dX7_undo_9 (fun c_9 => ?_) (fun c_9 => ?_)
  · refine sj_aload_n C 19 rfl dX7_undo_18 rfl rfl ?_
    refine sj_dup C 20 rfl dX7_undo_19 rfl ?_
    refine sj_getI C 23 rfl fd_X7_43 dX7_undo_20 kd_h ?_
    refine sj_iconstv C (1) 24 rfl dX7_undo_23 rfl ?_
    refine sj_isub C 25 rfl dX7_undo_24 ?_
    rw [show sj_fi (sj_wFi S h 0 0) h 4 - 1 = nI q from by rw [show sj_fi (sj_wFi S h 0 0) h 4 = nI (q + 1) from (sj_fi_wFi_k S h 0 (by omega)).trans hq4]; exact nI_pred q]
    refine sj_putI C 28 rfl fd_X7_43 dX7_undo_25 rfl rfl kd_h ?_
    refine sj_iconstv C (0) 29 rfl dX7_undo_28 rfl ?_
    refine sj_istore_n_1 C 30 rfl dX7_undo_29 rfl rfl ?_
    exact cut_30 _ (by rw [sj_cp_0]; exact (sj_sIa_id (sj_wFi (sj_wFi S h 0 0) h 4 (nI q)) _).symm)
  · exact absurd (hq4.symm.trans c_9) (fun e9 => nI_ne0 (n := q + 1) (by omega) (by omega) e9)
set_option maxRecDepth 100000 in
set_option maxHeartbeats 4000000 in
theorem ct_X7_restore_0 (l : Launch) {S : sj_St} {h : Nat} {b : Nat → Nat} {m : Nat → Int32} (hm : sj_mm S h b m) (h6 : sj_fi S h 6 = 0) : sj_Ctr l mX7_restore [.ref h] S (sj_eq (some (.int 0)) (sj_wFi (sj_wFi S h 0 0) h 0 1)) := by
  refine sj_start ([some (.ref h), none]) (by decide +kernel) rfl rfl (fun X hX C hR => ?_)
  subst hX
  have hm0 := hm
  obtain ⟨hm', em⟩ := hm0
  subst em
  obtain ⟨kd_h, ⟨rf_h_1, kd_a1, il_a1⟩, ⟨rf_h_2, kd_a2, il_a2⟩, ⟨rf_h_3, kd_a3, il_a3⟩, ⟨rf_h_5, kd_a5, il_a5⟩, ⟨rf_h_7, kd_a7, il_a7⟩, ⟨rf_h_13, kd_a13, il_a13⟩, ⟨rf_h_15, kd_a15, il_a15⟩, hinj⟩ := hm'
  refine sj_aload_n C 1 rfl dX7_restore_0 rfl rfl ?_
  refine sj_iconstv C (0) 2 rfl dX7_restore_1 rfl ?_
  refine sj_putI C 5 rfl fd_X7_31 dX7_restore_2 rfl rfl kd_h ?_
  refine sj_aload_n C 6 rfl dX7_restore_5 rfl rfl ?_
  refine sj_getI C 9 rfl fd_X7_50 dX7_restore_6 kd_h ?_
  rw [show sj_fi (sj_wFi S h 0 0) h 6 = sj_fi S h 6 from sj_fi_wFi_k S h 0 (by omega)]
  refine sj_if_ne C 18 12 rfl rfl dX7_restore_9 (fun c_9 => ?_) (fun c_9 => ?_)
  · exact absurd h6 c_9
  · refine sj_aload_n C 13 rfl dX7_restore_12 rfl rfl ?_
    refine sj_iconstv C (1) 14 rfl dX7_restore_13 rfl ?_
    refine sj_callVd C 17 rfl dX7_restore_14 cv_X7_46 rfl (ct_X7_fails _ (sj_mm_f hm _ _ _) 1) rfl rfl rfl ⟨_, _, kd_h, rfl, rfl, by decide⟩ ⟨rfl, rfl⟩ ?_
    refine sj_iret C hR rfl rfl dX7_restore_17 ?_
    exact ⟨rfl, rfl⟩
set_option maxRecDepth 100000 in
set_option maxHeartbeats 4000000 in
theorem ct_X7_restore_s (l : Launch) {S : sj_St} {h : Nat} {b : Nat → Nat} {m : Nat → Int32} (hm : sj_mm S h b m) (h6 : ¬ sj_fi S h 6 = 0) (q : Nat) (hq : q ≤ 6) (hq4 : sj_fi S h 4 = nI q) : sj_Ctr l mX7_restore [.ref h] S (sj_eq (some (.int ((sj_ia S (b 5)) 9))) (sj_sIa (sj_wFi (sj_sIa (sj_wFi S h 0 0) (b 3) (sj_sv q m (sj_ia S (b 3)))) h 4 (nI (sj_qn q + 1))) (b 1) (sj_cp 434 (sj_ia S (b 5)) m))) := by
  refine sj_start ([some (.ref h), none]) (by decide +kernel) rfl rfl (fun X hX C hR => ?_)
  subst hX
  have hm0 := hm
  obtain ⟨hm', em⟩ := hm0
  subst em
  obtain ⟨kd_h, ⟨rf_h_1, kd_a1, il_a1⟩, ⟨rf_h_2, kd_a2, il_a2⟩, ⟨rf_h_3, kd_a3, il_a3⟩, ⟨rf_h_5, kd_a5, il_a5⟩, ⟨rf_h_7, kd_a7, il_a7⟩, ⟨rf_h_13, kd_a13, il_a13⟩, ⟨rf_h_15, kd_a15, il_a15⟩, hinj⟩ := hm'
  have cut_24 : ∀ S', S' = (sj_sIa (sj_wFi (sj_sIa (sj_wFi S h 0 0) (b 3) (sj_sv q (sj_ia S (b 1)) (sj_ia S (b 3)))) h 4 (nI (sj_qn q + 1))) (b 1) (sj_cp 0 (sj_ia S (b 5)) (sj_ia S (b 1)))) → sj_G X S' 0 0 [some (.ref h), some (.int (nI 0))] 24 [] := by
    refine sj_down (fun k => ∀ S', S' = (sj_sIa (sj_wFi (sj_sIa (sj_wFi S h 0 0) (b 3) (sj_sv q (sj_ia S (b 1)) (sj_ia S (b 3)))) h 4 (nI (sj_qn q + 1))) (b 1) (sj_cp k (sj_ia S (b 5)) (sj_ia S (b 1)))) → sj_G X S' 0 0 [some (.ref h), some (.int (nI k))] 24 []) 434 (fun k hk ih => ?_)
    intro S' hS'
    subst hS'
    have esrc : sj_ia (sj_sIa (sj_wFi (sj_sIa (sj_wFi S h 0 0) (b 3) (sj_sv q (sj_ia S (b 1)) (sj_ia S (b 3)))) h 4 (nI (sj_qn q + 1))) (b 1) (sj_cp k (sj_ia S (b 5)) (sj_ia S (b 1)))) (b 5) = (sj_ia S (b 5)) := (sj_ia_sIa_ne _ _ (sj_mo_ne hm.1 (i := 5) (j := 1) (by omega) (by omega) (by omega))).trans (sj_ia_sIa_ne (sj_wFi S h 0 0) _ (sj_mo_ne hm.1 (i := 5) (j := 3) (by omega) (by omega) (by omega)))
    refine sj_iload_n C 25 rfl dX7_restore_24 rfl rfl ?_
    refine sj_sipush C (434) 28 rfl dX7_restore_25 (by decide) ?_
    refine sj_icmp_ge C 49 31 rfl rfl dX7_restore_28 (fun c_28 => ?_) (fun c_28 => ?_)
    · have hkn : k = 434 := by
        have h8 : ¬ k < 434 := fun h7 => nI_ge (b := 434) h7 (by omega) c_28
        omega
      subst hkn
      refine sj_aload_n C 50 rfl dX7_restore_49 rfl rfl ?_
      refine sj_getr C 53 rfl fd_X7_7 dX7_restore_50 kd_h rf_h_1 ?_
      refine sj_bipush C (9) 55 rfl dX7_restore_53 (by decide) ?_
      refine sj_iald C 56 rfl dX7_restore_55 kd_a1 (by show vp_in (nI 9) (sj_il S (b 1)); rw [il_a1]; exact vp_in_nI (by omega) (by omega)) ?_
      refine sj_iret C hR rfl rfl dX7_restore_56 ?_
      refine ⟨congrArg (fun z => some (Value.int z)) ?_, rfl⟩
      exact congrFun (sj_ia_sIa _ _ _) 9
    · have hlt : k < 434 := Nat.not_le.mp fun h8 => c_28 (nI_le (a := 434) h8 (by omega))
      refine sj_aload_n C 32 rfl dX7_restore_31 rfl rfl ?_
      refine sj_getr C 35 rfl fd_X7_7 dX7_restore_32 kd_h rf_h_1 ?_
      refine sj_iload_n C 36 rfl dX7_restore_35 rfl rfl ?_
      refine sj_aload_n C 37 rfl dX7_restore_36 rfl rfl ?_
      refine sj_getr C 40 rfl fd_X7_19 dX7_restore_37 kd_h rf_h_5 ?_
      refine sj_iload_n C 41 rfl dX7_restore_40 rfl rfl ?_
      refine sj_iald C 42 rfl dX7_restore_41 kd_a5 (by show vp_in (nI k) (sj_il S (b 5)); rw [il_a5]; exact vp_in_nI (by omega) (by omega)) ?_
      refine sj_iast C 43 rfl dX7_restore_42 kd_a1 (by show vp_in (nI k) (sj_il S (b 1)); rw [il_a1]; exact vp_in_nI (by omega) (by omega)) ?_
      refine sj_iinc_1 C 46 rfl dX7_restore_43 rfl rfl ?_
      refine sj_goto C 24 rfl dX7_restore_46 ?_
      rw [sj_n1]
      refine ih hlt _ ?_
      rw [sj_wIa_sIa, nI_clamp (by omega), esrc, sj_cp_s]
  refine sj_aload_n C 1 rfl dX7_restore_0 rfl rfl ?_
  refine sj_iconstv C (0) 2 rfl dX7_restore_1 rfl ?_
  refine sj_putI C 5 rfl fd_X7_31 dX7_restore_2 rfl rfl kd_h ?_
  refine sj_aload_n C 6 rfl dX7_restore_5 rfl rfl ?_
  refine sj_getI C 9 rfl fd_X7_50 dX7_restore_6 kd_h ?_
  rw [show sj_fi (sj_wFi S h 0 0) h 6 = sj_fi S h 6 from sj_fi_wFi_k S h 0 (by omega)]
  refine sj_if_ne C 18 12 rfl rfl dX7_restore_9 (fun c_9 => ?_) (fun c_9 => ?_)
  · refine sj_aload_n C 19 rfl dX7_restore_18 rfl rfl ?_
    refine sj_callVv C 22 rfl dX7_restore_19 cv_X7_54 rfl (ct_X7_save _ (sj_mm_f hm h 0 0) q hq ((sj_fi_wFi_k S h 0 (by omega)).trans hq4)) rfl rfl rfl ⟨_, _, kd_h, rfl, rfl, by decide⟩ ⟨rfl, rfl⟩ ?_
    refine sj_iconstv C (0) 23 rfl dX7_restore_22 rfl ?_
    refine sj_istore_n_1 C 24 rfl dX7_restore_23 rfl rfl ?_
    exact cut_24 _ ((sj_sIa_id (sj_wFi (sj_sIa (sj_wFi S h 0 0) (b 3) (sj_sv q (sj_ia S (b 1)) (sj_ia S (b 3)))) h 4 (nI (sj_qn q + 1))) (b 1)).symm.trans (congrArg (sj_sIa (sj_wFi (sj_sIa (sj_wFi S h 0 0) (b 3) (sj_sv q (sj_ia S (b 1)) (sj_ia S (b 3)))) h 4 (nI (sj_qn q + 1))) (b 1)) ((show sj_ia (sj_wFi (sj_sIa (sj_wFi S h 0 0) (b 3) (sj_sv q (sj_ia S (b 1)) (sj_ia S (b 3)))) h 4 (nI (sj_qn q + 1))) (b 1) = (sj_ia S (b 1)) from sj_ia_sIa_ne (sj_wFi S h 0 0) _ (sj_mo_ne hm.1 (i := 1) (j := 3) (by omega) (by omega) (by omega))).trans (sj_cp_0 _ _).symm)))
  · exact absurd c_9 h6
