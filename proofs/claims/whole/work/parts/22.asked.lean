/-! THE REFERENCE: the questions, as they are asked from outside: an answer, and what was thrown (0: nothing) -/
def sj_pq (P : Int32 × Int32) (S : sj_St) (h : Nat) (b : Nat → Nat) : Option Value → sj_St → Prop := fun v S' => v = some (.int P.1) ∧ ∃ g, S' = sj_sIa (sj_wFi S h 0 P.2) (b 15) g
def sj_isn (m : Nat → Int32) (v : Int32) : Bool := sj_wi v 0 (m 9 - 1)
theorem sj_wi_nI {v : Int32} {n : Nat} (hn : n < 2 ^ 31) (h : sj_wi v 0 (nI n) = true) : ∃ i, i ≤ n ∧ v = nI i := by
  obtain ⟨h1, h2⟩ := sj_wi_iff.mp h
  obtain ⟨j, hj, rfl⟩ := nI_of (sj_nlt.mpr h1)
  exact ⟨j, (nI_leI hj hn).mp h2, rfl⟩
theorem sj_isn_n {m : Nat → Int32} {v : Int32} {n : Nat} (h9 : m 9 = nI n) (hn : n ≤ 8) (h : sj_isn m v = true) : ∃ i, i < n ∧ v = nI i := by
  unfold sj_isn at h
  rw [h9] at h
  rcases Nat.eq_zero_or_pos n with h0 | h0
  · subst h0
    obtain ⟨h1, h2⟩ := sj_wi_iff.mp h
    exact absurd (Int32.le_trans h1 h2) (by decide)
  · rw [show nI n - 1 = nI (n - 1) from sj_nsub (b := 1) h0] at h
    obtain ⟨i, hi, rfl⟩ := sj_wi_nI (by omega) h
    exact ⟨i, by omega, rfl⟩
def sj_q_sheet (m : Nat → Int32) (v w : Int32) : Int32 × Int32 := if sj_isn m v = false then (0, 1) else if sj_wi w 0 6 = false then (0, 2) else (sj_ts m (sj_tn v) (sj_tn w), 0)
def sj_q_stroke (m : Nat → Int32) (v k w : Int32) : Int32 × Int32 := if sj_isn m v = false then (0, 1) else if sj_wi k 0 7 = false ∨ sj_wi w 0 4 = false then (0, 2) else (sj_tst m (sj_tn v) (sj_tn k) (sj_tn w), 0)
def sj_q_mark (m : Nat → Int32) (v j : Int32) : Int32 × Int32 := if sj_isn m v = false then (0, 1) else if sj_wi j 0 5 = false then (0, 2) else (sj_mk m (sj_tn v) (sj_tn j) + 1000, 0)
def sj_q_compare (m : Nat → Int32) (v e w : Int32) : Int32 × Int32 := if sj_isn m v = false ∨ sj_isn m e = false then (0, 1) else if sj_wi w 0 4 = false then (0, 2) else (sj_cps m (sj_tn v) (sj_tn e) (sj_tn w), 0)
def sj_q_oath (m : Nat → Int32) (k w : Int32) : Int32 × Int32 := if k < 0 ∨ sj_wi w 0 3 = false then (0, 1) else (sj_tlo m (sj_tn k) (sj_tn w), 0)
def sj_q_count (m : Nat → Int32) (q w : Int32) : Int32 × Int32 := if sj_wi w 0 17 = false then (0, 1) else (sj_tc m q (sj_tn w), 0)
def sj_q_why (m : Nat → Int32) (v e : Int32) (like : Bool) : Int32 × Int32 := if sj_isn m v = false ∨ sj_isn m e = false then (0, 1) else (sj_why m (sj_tn v) (sj_tn e) like, 0)
def sj_q_near (m : Nat → Int32) (v : Int32) : Int32 × Int32 := if sj_isn m v = false then (0, 1) else (sj_on (sj_mal m (sj_tn v) (sj_tn (m 9))), 0)
def sj_q_tol (m : Nat → Int32) (v e j : Int32) : Int32 × Int32 := if sj_isn m v = false ∨ sj_isn m e = false then (0, 1) else if sj_wi j 0 5 = false then (0, 2) else (sj_tol m (sj_tn v) (sj_tn e) (sj_tn j), 0)
def sj_q_stop (m : Nat → Int32) (w : Int32) : Int32 × Int32 := if sj_wi w 0 1 = false then (0, 1) else (m (12 + sj_tn w), 0)
set_option maxRecDepth 100000 in
set_option maxHeartbeats 400000 in
theorem ct_X7_sheet (l : Launch) {S : sj_St} {h : Nat} {b : Nat → Nat} {m : Nat → Int32} (hm : sj_mm S h b m) (hv : sj_oav m) (hs : sj_shs m) (v w : Int32) : sj_Ctr l mX7_sheet [.ref h, .int v, .int w] S (sj_pq (sj_q_sheet m v w) S h b) := by
  refine sj_start ([some (.ref h), some (.int v), some (.int w)]) (by decide +kernel) rfl rfl (fun X hX C hR => ?_)
  subst hX
  have hm0 := hm
  obtain ⟨hm', em⟩ := hm0
  subst em
  obtain ⟨kd_h, ⟨rf_h_1, kd_a1, il_a1⟩, ⟨rf_h_2, kd_a2, il_a2⟩, ⟨rf_h_3, kd_a3, il_a3⟩, ⟨rf_h_5, kd_a5, il_a5⟩, ⟨rf_h_7, kd_a7, il_a7⟩, ⟨rf_h_13, kd_a13, il_a13⟩, ⟨rf_h_15, kd_a15, il_a15⟩, hinj⟩ := hm'
  obtain ⟨⟨h9, hn8⟩, ⟨h10, hn28⟩, hoa⟩ := id hv
  have hmz := sj_mm_f hm h 0 0
  have hs' : ∀ i, i < sj_tn ((sj_ia S (b 1)) 9) → sj_shv (sj_ia S (b 1)) i := hs
  refine sj_aload_n C 1 rfl dX7_sheet_0 rfl rfl ?_
  refine sj_iconstv C (0) 2 rfl dX7_sheet_1 rfl ?_
  refine sj_putI C 5 rfl fd_X7_31 dX7_sheet_2 rfl rfl kd_h ?_
  refine sj_aload_n C 6 rfl dX7_sheet_5 rfl rfl ?_
  refine sj_iload_n C 7 rfl dX7_sheet_6 rfl rfl ?_
  refine sj_callVd C 10 rfl dX7_sheet_7 cv_X7_142 rfl (ct_X7_isSheet _ hmz _) rfl rfl rfl ⟨_, _, kd_h, rfl, rfl, by decide⟩ ⟨rfl, rfl⟩ ?_
  rw [show sj_bi (sj_wi v 0 ((sj_ia S (b 1)) 9 - 1)) = sj_bi (sj_isn (sj_ia S (b 1)) v) from rfl]
  refine sj_if_ne C 19 13 rfl rfl dX7_sheet_10 (fun c_10 => ?_) (fun c_10 => ?_)
  · obtain ⟨i, hi9, rfl⟩ := sj_isn_n h9 hn8 (sj_bin.mp c_10)
    have hvi := hs' i hi9
    refine sj_iload_n C 20 rfl dX7_sheet_19 rfl rfl ?_
    refine sj_iconstv C (0) 21 rfl dX7_sheet_20 rfl ?_
    refine sj_bipush C (6) 23 rfl dX7_sheet_21 (by decide) ?_
    refine sj_callSd C 26 rfl dX7_sheet_23 cv_X7_35 rfl (ct_X7_within _ _ _ _ _) rfl rfl rfl ⟨rfl, rfl⟩ ?_
    refine sj_if_eq C 38 29 rfl rfl dX7_sheet_26 (fun c_26 => ?_) (fun c_26 => ?_)
    · refine sj_aload_n C 39 rfl dX7_sheet_38 rfl rfl ?_
      refine sj_iconstv C (2) 40 rfl dX7_sheet_39 rfl ?_
      refine sj_callVd C 43 rfl dX7_sheet_40 cv_X7_46 rfl (ct_X7_fails _ hmz 2) rfl rfl rfl ⟨_, _, kd_h, rfl, rfl, by decide⟩ ⟨rfl, rfl⟩ ?_
      rw [sj_wFi_wFi]
      refine sj_iret C hR rfl rfl dX7_sheet_43 ?_
      have e8 : sj_q_sheet (sj_ia S (b 1)) (nI i) w = (0, 2) := by
        unfold sj_q_sheet
        rw [if_neg (fun h8 => c_10 (sj_bi0.mpr h8)), if_pos (sj_bi0.mp c_26)]
      rw [e8]
      exact ⟨rfl, _, (sj_sIa_id _ _).symm⟩
    · obtain ⟨k, hk9, rfl⟩ := sj_wi_nI (n := 6) (by omega) (sj_bin.mp c_26)
      refine sj_aload_n C 30 rfl dX7_sheet_29 rfl rfl ?_
      refine sj_iload_n C 31 rfl dX7_sheet_30 rfl rfl ?_
      refine sj_iload_n C 32 rfl dX7_sheet_31 rfl rfl ?_
      refine sj_callVp C 35 rfl dX7_sheet_32 cv_X7_206 rfl (ct_X7_tellsSheet _ hmz hv i k hvi (by omega)) rfl rfl rfl ⟨_, _, kd_h, rfl, rfl, by decide⟩ ⟨rfl, rfl⟩ (fun v_32 S_32 hp_32 => ?_)
      obtain ⟨rfl, g_32, rfl⟩ := hp_32
      refine sj_goto C 43 rfl dX7_sheet_35 ?_
      refine sj_iret C hR rfl rfl dX7_sheet_43 ?_
      have e8 : sj_q_sheet (sj_ia S (b 1)) (nI i) (nI k) = (sj_ts (sj_ia S (b 1)) i k, 0) := by
        unfold sj_q_sheet
        rw [if_neg (fun h8 => c_10 (sj_bi0.mpr h8)), if_neg (fun h8 => c_26 (sj_bi0.mpr h8)), sj_tn_nI (show i < 2 ^ 31 by omega), sj_tn_nI (show k < 2 ^ 31 by omega)]
      rw [e8]
      exact ⟨rfl, _, rfl⟩
  · refine sj_aload_n C 14 rfl dX7_sheet_13 rfl rfl ?_
    refine sj_iconstv C (1) 15 rfl dX7_sheet_14 rfl ?_
    refine sj_callVd C 18 rfl dX7_sheet_15 cv_X7_46 rfl (ct_X7_fails _ hmz 1) rfl rfl rfl ⟨_, _, kd_h, rfl, rfl, by decide⟩ ⟨rfl, rfl⟩ ?_
    rw [sj_wFi_wFi]
    refine sj_iret C hR rfl rfl dX7_sheet_18 ?_
    have e8 : sj_q_sheet (sj_ia S (b 1)) v w = (0, 1) := by
      unfold sj_q_sheet
      rw [if_pos (sj_bi0.mp c_10)]
    rw [e8]
    exact ⟨rfl, _, (sj_sIa_id _ _).symm⟩
set_option maxRecDepth 100000 in
set_option maxHeartbeats 400000 in
theorem ct_X7_stroke (l : Launch) {S : sj_St} {h : Nat} {b : Nat → Nat} {m : Nat → Int32} (hm : sj_mm S h b m) (hv : sj_oav m) (hs : sj_shs m) (v k w : Int32) : sj_Ctr l mX7_stroke [.ref h, .int v, .int k, .int w] S (sj_pq (sj_q_stroke m v k w) S h b) := by
  refine sj_start ([some (.ref h), some (.int v), some (.int k), some (.int w)]) (by decide +kernel) rfl rfl (fun X hX C hR => ?_)
  subst hX
  have hm0 := hm
  obtain ⟨hm', em⟩ := hm0
  subst em
  obtain ⟨kd_h, ⟨rf_h_1, kd_a1, il_a1⟩, ⟨rf_h_2, kd_a2, il_a2⟩, ⟨rf_h_3, kd_a3, il_a3⟩, ⟨rf_h_5, kd_a5, il_a5⟩, ⟨rf_h_7, kd_a7, il_a7⟩, ⟨rf_h_13, kd_a13, il_a13⟩, ⟨rf_h_15, kd_a15, il_a15⟩, hinj⟩ := hm'
  obtain ⟨⟨h9, hn8⟩, ⟨h10, hn28⟩, hoa⟩ := id hv
  have hmz := sj_mm_f hm h 0 0
  have hs' : ∀ i, i < sj_tn ((sj_ia S (b 1)) 9) → sj_shv (sj_ia S (b 1)) i := hs
  refine sj_aload_n C 1 rfl dX7_stroke_0 rfl rfl ?_
  refine sj_iconstv C (0) 2 rfl dX7_stroke_1 rfl ?_
  refine sj_putI C 5 rfl fd_X7_31 dX7_stroke_2 rfl rfl kd_h ?_
  refine sj_aload_n C 6 rfl dX7_stroke_5 rfl rfl ?_
  refine sj_iload_n C 7 rfl dX7_stroke_6 rfl rfl ?_
  refine sj_callVd C 10 rfl dX7_stroke_7 cv_X7_142 rfl (ct_X7_isSheet _ hmz _) rfl rfl rfl ⟨_, _, kd_h, rfl, rfl, by decide⟩ ⟨rfl, rfl⟩ ?_
  rw [show sj_bi (sj_wi v 0 ((sj_ia S (b 1)) 9 - 1)) = sj_bi (sj_isn (sj_ia S (b 1)) v) from rfl]
  refine sj_if_ne C 19 13 rfl rfl dX7_stroke_10 (fun c_10 => ?_) (fun c_10 => ?_)
  · obtain ⟨i, hi9, rfl⟩ := sj_isn_n h9 hn8 (sj_bin.mp c_10)
    have hvi := hs' i hi9
    refine sj_iload_n C 20 rfl dX7_stroke_19 rfl rfl ?_
    refine sj_iconstv C (0) 21 rfl dX7_stroke_20 rfl ?_
    refine sj_bipush C (7) 23 rfl dX7_stroke_21 (by decide) ?_
    refine sj_callSd C 26 rfl dX7_stroke_23 cv_X7_35 rfl (ct_X7_within _ _ _ _ _) rfl rfl rfl ⟨rfl, rfl⟩ ?_
    refine sj_if_eq C 48 29 rfl rfl dX7_stroke_26 (fun c_26 => ?_) (fun c_26 => ?_)
    · refine sj_aload_n C 49 rfl dX7_stroke_48 rfl rfl ?_
      refine sj_iconstv C (2) 50 rfl dX7_stroke_49 rfl ?_
      refine sj_callVd C 53 rfl dX7_stroke_50 cv_X7_46 rfl (ct_X7_fails _ hmz 2) rfl rfl rfl ⟨_, _, kd_h, rfl, rfl, by decide⟩ ⟨rfl, rfl⟩ ?_
      rw [sj_wFi_wFi]
      refine sj_iret C hR rfl rfl dX7_stroke_53 ?_
      have e8 : sj_q_stroke (sj_ia S (b 1)) (nI i) k w = (0, 2) := by
        unfold sj_q_stroke
        rw [if_neg (fun h8 => c_10 (sj_bi0.mpr h8)), if_pos (Or.inl (sj_bi0.mp c_26))]
      rw [e8]
      exact ⟨rfl, _, (sj_sIa_id _ _).symm⟩
    · refine sj_iload_n C 30 rfl dX7_stroke_29 rfl rfl ?_
      refine sj_iconstv C (0) 31 rfl dX7_stroke_30 rfl ?_
      refine sj_iconstv C (4) 32 rfl dX7_stroke_31 rfl ?_
      refine sj_callSd C 35 rfl dX7_stroke_32 cv_X7_35 rfl (ct_X7_within _ _ _ _ _) rfl rfl rfl ⟨rfl, rfl⟩ ?_
      refine sj_if_eq C 48 38 rfl rfl dX7_stroke_35 (fun c_35 => ?_) (fun c_35 => ?_)
      · refine sj_aload_n C 49 rfl dX7_stroke_48 rfl rfl ?_
        refine sj_iconstv C (2) 50 rfl dX7_stroke_49 rfl ?_
        refine sj_callVd C 53 rfl dX7_stroke_50 cv_X7_46 rfl (ct_X7_fails _ hmz 2) rfl rfl rfl ⟨_, _, kd_h, rfl, rfl, by decide⟩ ⟨rfl, rfl⟩ ?_
        rw [sj_wFi_wFi]
        refine sj_iret C hR rfl rfl dX7_stroke_53 ?_
        have e8 : sj_q_stroke (sj_ia S (b 1)) (nI i) k w = (0, 2) := by
          unfold sj_q_stroke
          rw [if_neg (fun h8 => c_10 (sj_bi0.mpr h8)), if_pos (Or.inr (sj_bi0.mp c_35))]
        rw [e8]
        exact ⟨rfl, _, (sj_sIa_id _ _).symm⟩
      · obtain ⟨j, hj9, rfl⟩ := sj_wi_nI (n := 7) (by omega) (sj_bin.mp c_26)
        obtain ⟨y, hy9, rfl⟩ := sj_wi_nI (n := 4) (by omega) (sj_bin.mp c_35)
        refine sj_aload_n C 39 rfl dX7_stroke_38 rfl rfl ?_
        refine sj_iload_n C 40 rfl dX7_stroke_39 rfl rfl ?_
        refine sj_iload_n C 41 rfl dX7_stroke_40 rfl rfl ?_
        refine sj_iload_n C 42 rfl dX7_stroke_41 rfl rfl ?_
        refine sj_callVd C 45 rfl dX7_stroke_42 cv_X7_209 rfl (ct_X7_tellsStroke _ hmz i hvi j y (by omega) (by omega)) rfl rfl rfl ⟨_, _, kd_h, rfl, rfl, by decide⟩ ⟨rfl, rfl⟩ ?_
        refine sj_goto C 53 rfl dX7_stroke_45 ?_
        refine sj_iret C hR rfl rfl dX7_stroke_53 ?_
        have e8 : sj_q_stroke (sj_ia S (b 1)) (nI i) (nI j) (nI y) = (sj_tst (sj_ia S (b 1)) i j y, 0) := by
          unfold sj_q_stroke
          rw [if_neg (fun h8 => c_10 (sj_bi0.mpr h8)), if_neg (fun h8 => h8.elim (fun h7 => c_26 (sj_bi0.mpr h7)) (fun h7 => c_35 (sj_bi0.mpr h7))), sj_tn_nI (show i < 2 ^ 31 by omega), sj_tn_nI (show j < 2 ^ 31 by omega), sj_tn_nI (show y < 2 ^ 31 by omega)]
        rw [e8]
        exact ⟨rfl, _, (sj_sIa_id _ _).symm⟩
  · refine sj_aload_n C 14 rfl dX7_stroke_13 rfl rfl ?_
    refine sj_iconstv C (1) 15 rfl dX7_stroke_14 rfl ?_
    refine sj_callVd C 18 rfl dX7_stroke_15 cv_X7_46 rfl (ct_X7_fails _ hmz 1) rfl rfl rfl ⟨_, _, kd_h, rfl, rfl, by decide⟩ ⟨rfl, rfl⟩ ?_
    rw [sj_wFi_wFi]
    refine sj_iret C hR rfl rfl dX7_stroke_18 ?_
    have e8 : sj_q_stroke (sj_ia S (b 1)) v k w = (0, 1) := by
      unfold sj_q_stroke
      rw [if_pos (sj_bi0.mp c_10)]
    rw [e8]
    exact ⟨rfl, _, (sj_sIa_id _ _).symm⟩
set_option maxRecDepth 100000 in
set_option maxHeartbeats 400000 in
theorem ct_X7_mark (l : Launch) {S : sj_St} {h : Nat} {b : Nat → Nat} {m : Nat → Int32} (hm : sj_mm S h b m) (hv : sj_oav m) (hs : sj_shs m) (v w : Int32) : sj_Ctr l mX7_mark [.ref h, .int v, .int w] S (sj_pq (sj_q_mark m v w) S h b) := by
  refine sj_start ([some (.ref h), some (.int v), some (.int w)]) (by decide +kernel) rfl rfl (fun X hX C hR => ?_)
  subst hX
  have hm0 := hm
  obtain ⟨hm', em⟩ := hm0
  subst em
  obtain ⟨kd_h, ⟨rf_h_1, kd_a1, il_a1⟩, ⟨rf_h_2, kd_a2, il_a2⟩, ⟨rf_h_3, kd_a3, il_a3⟩, ⟨rf_h_5, kd_a5, il_a5⟩, ⟨rf_h_7, kd_a7, il_a7⟩, ⟨rf_h_13, kd_a13, il_a13⟩, ⟨rf_h_15, kd_a15, il_a15⟩, hinj⟩ := hm'
  obtain ⟨⟨h9, hn8⟩, ⟨h10, hn28⟩, hoa⟩ := id hv
  have hmz := sj_mm_f hm h 0 0
  have hs' : ∀ i, i < sj_tn ((sj_ia S (b 1)) 9) → sj_shv (sj_ia S (b 1)) i := hs
  refine sj_aload_n C 1 rfl dX7_mark_0 rfl rfl ?_
  refine sj_iconstv C (0) 2 rfl dX7_mark_1 rfl ?_
  refine sj_putI C 5 rfl fd_X7_31 dX7_mark_2 rfl rfl kd_h ?_
  refine sj_aload_n C 6 rfl dX7_mark_5 rfl rfl ?_
  refine sj_iload_n C 7 rfl dX7_mark_6 rfl rfl ?_
  refine sj_callVd C 10 rfl dX7_mark_7 cv_X7_142 rfl (ct_X7_isSheet _ hmz _) rfl rfl rfl ⟨_, _, kd_h, rfl, rfl, by decide⟩ ⟨rfl, rfl⟩ ?_
  rw [show sj_bi (sj_wi v 0 ((sj_ia S (b 1)) 9 - 1)) = sj_bi (sj_isn (sj_ia S (b 1)) v) from rfl]
  refine sj_if_ne C 19 13 rfl rfl dX7_mark_10 (fun c_10 => ?_) (fun c_10 => ?_)
  · obtain ⟨i, hi9, rfl⟩ := sj_isn_n h9 hn8 (sj_bin.mp c_10)
    have hvi := hs' i hi9
    refine sj_iload_n C 20 rfl dX7_mark_19 rfl rfl ?_
    refine sj_iconstv C (0) 21 rfl dX7_mark_20 rfl ?_
    refine sj_iconstv C (5) 22 rfl dX7_mark_21 rfl ?_
    refine sj_callSd C 25 rfl dX7_mark_22 cv_X7_35 rfl (ct_X7_within _ _ _ _ _) rfl rfl rfl ⟨rfl, rfl⟩ ?_
    refine sj_if_eq C 41 28 rfl rfl dX7_mark_25 (fun c_25 => ?_) (fun c_25 => ?_)
    · refine sj_aload_n C 42 rfl dX7_mark_41 rfl rfl ?_
      refine sj_iconstv C (2) 43 rfl dX7_mark_42 rfl ?_
      refine sj_callVd C 46 rfl dX7_mark_43 cv_X7_46 rfl (ct_X7_fails _ hmz 2) rfl rfl rfl ⟨_, _, kd_h, rfl, rfl, by decide⟩ ⟨rfl, rfl⟩ ?_
      rw [sj_wFi_wFi]
      refine sj_iret C hR rfl rfl dX7_mark_46 ?_
      have e8 : sj_q_mark (sj_ia S (b 1)) (nI i) w = (0, 2) := by
        unfold sj_q_mark
        rw [if_neg (fun h8 => c_10 (sj_bi0.mpr h8)), if_pos (sj_bi0.mp c_25)]
      rw [e8]
      exact ⟨rfl, _, (sj_sIa_id _ _).symm⟩
    · obtain ⟨k, hk9, rfl⟩ := sj_wi_nI (n := 5) (by omega) (sj_bin.mp c_25)
      refine sj_aload_n C 29 rfl dX7_mark_28 rfl rfl ?_
      refine sj_iload_n C 30 rfl dX7_mark_29 rfl rfl ?_
      refine sj_iload_n C 31 rfl dX7_mark_30 rfl rfl ?_
      refine sj_callVd C 34 rfl dX7_mark_31 cv_X7_83 rfl (ct_X7_markOf _ hmz i hvi k (by omega)) rfl rfl rfl ⟨_, _, kd_h, rfl, rfl, by decide⟩ ⟨rfl, rfl⟩ ?_
      refine sj_sipush C (1000) 37 rfl dX7_mark_34 (by decide) ?_
      refine sj_iadd C 38 rfl dX7_mark_37 ?_
      refine sj_goto C 46 rfl dX7_mark_38 ?_
      refine sj_iret C hR rfl rfl dX7_mark_46 ?_
      have e8 : sj_q_mark (sj_ia S (b 1)) (nI i) (nI k) = (sj_mk (sj_ia S (b 1)) i k + 1000, 0) := by
        unfold sj_q_mark
        rw [if_neg (fun h8 => c_10 (sj_bi0.mpr h8)), if_neg (fun h8 => c_25 (sj_bi0.mpr h8)), sj_tn_nI (show i < 2 ^ 31 by omega), sj_tn_nI (show k < 2 ^ 31 by omega)]
      rw [e8]
      exact ⟨rfl, _, (sj_sIa_id _ _).symm⟩
  · refine sj_aload_n C 14 rfl dX7_mark_13 rfl rfl ?_
    refine sj_iconstv C (1) 15 rfl dX7_mark_14 rfl ?_
    refine sj_callVd C 18 rfl dX7_mark_15 cv_X7_46 rfl (ct_X7_fails _ hmz 1) rfl rfl rfl ⟨_, _, kd_h, rfl, rfl, by decide⟩ ⟨rfl, rfl⟩ ?_
    rw [sj_wFi_wFi]
    refine sj_iret C hR rfl rfl dX7_mark_18 ?_
    have e8 : sj_q_mark (sj_ia S (b 1)) v w = (0, 1) := by
      unfold sj_q_mark
      rw [if_pos (sj_bi0.mp c_10)]
    rw [e8]
    exact ⟨rfl, _, (sj_sIa_id _ _).symm⟩
set_option maxRecDepth 100000 in
set_option maxHeartbeats 400000 in
theorem ct_X7_compare (l : Launch) {S : sj_St} {h : Nat} {b : Nat → Nat} {m : Nat → Int32} (hm : sj_mm S h b m) (hv : sj_oav m) (hs : sj_shs m) (v e w : Int32) : sj_Ctr l mX7_compare [.ref h, .int v, .int e, .int w] S (sj_pq (sj_q_compare m v e w) S h b) := by
  refine sj_start ([some (.ref h), some (.int v), some (.int e), some (.int w)]) (by decide +kernel) rfl rfl (fun X hX C hR => ?_)
  subst hX
  have hm0 := hm
  obtain ⟨hm', em⟩ := hm0
  subst em
  obtain ⟨kd_h, ⟨rf_h_1, kd_a1, il_a1⟩, ⟨rf_h_2, kd_a2, il_a2⟩, ⟨rf_h_3, kd_a3, il_a3⟩, ⟨rf_h_5, kd_a5, il_a5⟩, ⟨rf_h_7, kd_a7, il_a7⟩, ⟨rf_h_13, kd_a13, il_a13⟩, ⟨rf_h_15, kd_a15, il_a15⟩, hinj⟩ := hm'
  obtain ⟨⟨h9, hn8⟩, ⟨h10, hn28⟩, hoa⟩ := id hv
  have hmz := sj_mm_f hm h 0 0
  have hs' : ∀ i, i < sj_tn ((sj_ia S (b 1)) 9) → sj_shv (sj_ia S (b 1)) i := hs
  refine sj_aload_n C 1 rfl dX7_compare_0 rfl rfl ?_
  refine sj_iconstv C (0) 2 rfl dX7_compare_1 rfl ?_
  refine sj_putI C 5 rfl fd_X7_31 dX7_compare_2 rfl rfl kd_h ?_
  refine sj_aload_n C 6 rfl dX7_compare_5 rfl rfl ?_
  refine sj_iload_n C 7 rfl dX7_compare_6 rfl rfl ?_
  refine sj_callVd C 10 rfl dX7_compare_7 cv_X7_142 rfl (ct_X7_isSheet _ hmz _) rfl rfl rfl ⟨_, _, kd_h, rfl, rfl, by decide⟩ ⟨rfl, rfl⟩ ?_
  rw [show sj_bi (sj_wi v 0 ((sj_ia S (b 1)) 9 - 1)) = sj_bi (sj_isn (sj_ia S (b 1)) v) from rfl]
  refine sj_if_eq C 21 13 rfl rfl dX7_compare_10 (fun c_10 => ?_) (fun c_10 => ?_)
  · refine sj_aload_n C 22 rfl dX7_compare_21 rfl rfl ?_
    refine sj_iconstv C (1) 23 rfl dX7_compare_22 rfl ?_
    refine sj_callVd C 26 rfl dX7_compare_23 cv_X7_46 rfl (ct_X7_fails _ hmz 1) rfl rfl rfl ⟨_, _, kd_h, rfl, rfl, by decide⟩ ⟨rfl, rfl⟩ ?_
    rw [sj_wFi_wFi]
    refine sj_iret C hR rfl rfl dX7_compare_26 ?_
    have e8 : sj_q_compare (sj_ia S (b 1)) v e w = (0, 1) := by
      unfold sj_q_compare
      rw [if_pos (Or.inl (sj_bi0.mp c_10))]
    rw [e8]
    exact ⟨rfl, _, (sj_sIa_id _ _).symm⟩
  · refine sj_aload_n C 14 rfl dX7_compare_13 rfl rfl ?_
    refine sj_iload_n C 15 rfl dX7_compare_14 rfl rfl ?_
    refine sj_callVd C 18 rfl dX7_compare_15 cv_X7_142 rfl (ct_X7_isSheet _ hmz _) rfl rfl rfl ⟨_, _, kd_h, rfl, rfl, by decide⟩ ⟨rfl, rfl⟩ ?_
    rw [show sj_bi (sj_wi e 0 ((sj_ia S (b 1)) 9 - 1)) = sj_bi (sj_isn (sj_ia S (b 1)) e) from rfl]
    refine sj_if_ne C 27 21 rfl rfl dX7_compare_18 (fun c_18 => ?_) (fun c_18 => ?_)
    · obtain ⟨i, hi9, rfl⟩ := sj_isn_n h9 hn8 (sj_bin.mp c_10)
      have hvi := hs' i hi9
      obtain ⟨d, hd9, rfl⟩ := sj_isn_n h9 hn8 (sj_bin.mp c_18)
      have hvd := hs' d hd9
      refine sj_iload_n C 28 rfl dX7_compare_27 rfl rfl ?_
      refine sj_iconstv C (0) 29 rfl dX7_compare_28 rfl ?_
      refine sj_iconstv C (4) 30 rfl dX7_compare_29 rfl ?_
      refine sj_callSd C 33 rfl dX7_compare_30 cv_X7_35 rfl (ct_X7_within _ _ _ _ _) rfl rfl rfl ⟨rfl, rfl⟩ ?_
      refine sj_if_eq C 46 36 rfl rfl dX7_compare_33 (fun c_33 => ?_) (fun c_33 => ?_)
      · refine sj_aload_n C 47 rfl dX7_compare_46 rfl rfl ?_
        refine sj_iconstv C (2) 48 rfl dX7_compare_47 rfl ?_
        refine sj_callVd C 51 rfl dX7_compare_48 cv_X7_46 rfl (ct_X7_fails _ hmz 2) rfl rfl rfl ⟨_, _, kd_h, rfl, rfl, by decide⟩ ⟨rfl, rfl⟩ ?_
        rw [sj_wFi_wFi]
        refine sj_iret C hR rfl rfl dX7_compare_51 ?_
        have e8 : sj_q_compare (sj_ia S (b 1)) (nI i) (nI d) w = (0, 2) := by
          unfold sj_q_compare
          rw [if_neg (fun h8 => h8.elim (fun h7 => c_10 (sj_bi0.mpr h7)) (fun h7 => c_18 (sj_bi0.mpr h7))), if_pos (sj_bi0.mp c_33)]
        rw [e8]
        exact ⟨rfl, _, (sj_sIa_id _ _).symm⟩
      · obtain ⟨k, hk9, rfl⟩ := sj_wi_nI (n := 4) (by omega) (sj_bin.mp c_33)
        refine sj_aload_n C 37 rfl dX7_compare_36 rfl rfl ?_
        refine sj_iload_n C 38 rfl dX7_compare_37 rfl rfl ?_
        refine sj_iload_n C 39 rfl dX7_compare_38 rfl rfl ?_
        refine sj_iload_n C 40 rfl dX7_compare_39 rfl rfl ?_
        refine sj_callVp C 43 rfl dX7_compare_40 cv_X7_215 rfl (ct_X7_compares _ hmz hv i d k hvi hvd (by omega)) rfl rfl rfl ⟨_, _, kd_h, rfl, rfl, by decide⟩ ⟨rfl, rfl⟩ (fun v_40 S_40 hp_40 => ?_)
        obtain ⟨rfl, g_40, rfl⟩ := hp_40
        refine sj_goto C 51 rfl dX7_compare_43 ?_
        refine sj_iret C hR rfl rfl dX7_compare_51 ?_
        have e8 : sj_q_compare (sj_ia S (b 1)) (nI i) (nI d) (nI k) = (sj_cps (sj_ia S (b 1)) i d k, 0) := by
          unfold sj_q_compare
          rw [if_neg (fun h8 => h8.elim (fun h7 => c_10 (sj_bi0.mpr h7)) (fun h7 => c_18 (sj_bi0.mpr h7))), if_neg (fun h8 => c_33 (sj_bi0.mpr h8)), sj_tn_nI (show i < 2 ^ 31 by omega), sj_tn_nI (show d < 2 ^ 31 by omega), sj_tn_nI (show k < 2 ^ 31 by omega)]
        rw [e8]
        exact ⟨rfl, _, rfl⟩
    · refine sj_aload_n C 22 rfl dX7_compare_21 rfl rfl ?_
      refine sj_iconstv C (1) 23 rfl dX7_compare_22 rfl ?_
      refine sj_callVd C 26 rfl dX7_compare_23 cv_X7_46 rfl (ct_X7_fails _ hmz 1) rfl rfl rfl ⟨_, _, kd_h, rfl, rfl, by decide⟩ ⟨rfl, rfl⟩ ?_
      rw [sj_wFi_wFi]
      refine sj_iret C hR rfl rfl dX7_compare_26 ?_
      have e8 : sj_q_compare (sj_ia S (b 1)) v e w = (0, 1) := by
        unfold sj_q_compare
        rw [if_pos (Or.inr (sj_bi0.mp c_18))]
      rw [e8]
      exact ⟨rfl, _, (sj_sIa_id _ _).symm⟩
set_option maxRecDepth 100000 in
set_option maxHeartbeats 400000 in
theorem ct_X7_toleranceFor (l : Launch) {S : sj_St} {h : Nat} {b : Nat → Nat} {m : Nat → Int32} (hm : sj_mm S h b m) (hv : sj_oav m) (hs : sj_shs m) (v e w : Int32) : sj_Ctr l mX7_toleranceFor [.ref h, .int v, .int e, .int w] S (sj_pq (sj_q_tol m v e w) S h b) := by
  refine sj_start ([some (.ref h), some (.int v), some (.int e), some (.int w)]) (by decide +kernel) rfl rfl (fun X hX C hR => ?_)
  subst hX
  have hm0 := hm
  obtain ⟨hm', em⟩ := hm0
  subst em
  obtain ⟨kd_h, ⟨rf_h_1, kd_a1, il_a1⟩, ⟨rf_h_2, kd_a2, il_a2⟩, ⟨rf_h_3, kd_a3, il_a3⟩, ⟨rf_h_5, kd_a5, il_a5⟩, ⟨rf_h_7, kd_a7, il_a7⟩, ⟨rf_h_13, kd_a13, il_a13⟩, ⟨rf_h_15, kd_a15, il_a15⟩, hinj⟩ := hm'
  obtain ⟨⟨h9, hn8⟩, ⟨h10, hn28⟩, hoa⟩ := id hv
  have hmz := sj_mm_f hm h 0 0
  have hs' : ∀ i, i < sj_tn ((sj_ia S (b 1)) 9) → sj_shv (sj_ia S (b 1)) i := hs
  refine sj_aload_n C 1 rfl dX7_toleranceFor_0 rfl rfl ?_
  refine sj_iconstv C (0) 2 rfl dX7_toleranceFor_1 rfl ?_
  refine sj_putI C 5 rfl fd_X7_31 dX7_toleranceFor_2 rfl rfl kd_h ?_
  refine sj_aload_n C 6 rfl dX7_toleranceFor_5 rfl rfl ?_
  refine sj_iload_n C 7 rfl dX7_toleranceFor_6 rfl rfl ?_
  refine sj_callVd C 10 rfl dX7_toleranceFor_7 cv_X7_142 rfl (ct_X7_isSheet _ hmz _) rfl rfl rfl ⟨_, _, kd_h, rfl, rfl, by decide⟩ ⟨rfl, rfl⟩ ?_
  rw [show sj_bi (sj_wi v 0 ((sj_ia S (b 1)) 9 - 1)) = sj_bi (sj_isn (sj_ia S (b 1)) v) from rfl]
  refine sj_if_eq C 21 13 rfl rfl dX7_toleranceFor_10 (fun c_10 => ?_) (fun c_10 => ?_)
  · refine sj_aload_n C 22 rfl dX7_toleranceFor_21 rfl rfl ?_
    refine sj_iconstv C (1) 23 rfl dX7_toleranceFor_22 rfl ?_
    refine sj_callVd C 26 rfl dX7_toleranceFor_23 cv_X7_46 rfl (ct_X7_fails _ hmz 1) rfl rfl rfl ⟨_, _, kd_h, rfl, rfl, by decide⟩ ⟨rfl, rfl⟩ ?_
    rw [sj_wFi_wFi]
    refine sj_iret C hR rfl rfl dX7_toleranceFor_26 ?_
    have e8 : sj_q_tol (sj_ia S (b 1)) v e w = (0, 1) := by
      unfold sj_q_tol
      rw [if_pos (Or.inl (sj_bi0.mp c_10))]
    rw [e8]
    exact ⟨rfl, _, (sj_sIa_id _ _).symm⟩
  · refine sj_aload_n C 14 rfl dX7_toleranceFor_13 rfl rfl ?_
    refine sj_iload_n C 15 rfl dX7_toleranceFor_14 rfl rfl ?_
    refine sj_callVd C 18 rfl dX7_toleranceFor_15 cv_X7_142 rfl (ct_X7_isSheet _ hmz _) rfl rfl rfl ⟨_, _, kd_h, rfl, rfl, by decide⟩ ⟨rfl, rfl⟩ ?_
    rw [show sj_bi (sj_wi e 0 ((sj_ia S (b 1)) 9 - 1)) = sj_bi (sj_isn (sj_ia S (b 1)) e) from rfl]
    refine sj_if_ne C 27 21 rfl rfl dX7_toleranceFor_18 (fun c_18 => ?_) (fun c_18 => ?_)
    · obtain ⟨i, hi9, rfl⟩ := sj_isn_n h9 hn8 (sj_bin.mp c_10)
      have hvi := hs' i hi9
      obtain ⟨d, hd9, rfl⟩ := sj_isn_n h9 hn8 (sj_bin.mp c_18)
      have hvd := hs' d hd9
      refine sj_iload_n C 28 rfl dX7_toleranceFor_27 rfl rfl ?_
      refine sj_iconstv C (0) 29 rfl dX7_toleranceFor_28 rfl ?_
      refine sj_iconstv C (5) 30 rfl dX7_toleranceFor_29 rfl ?_
      refine sj_callSd C 33 rfl dX7_toleranceFor_30 cv_X7_35 rfl (ct_X7_within _ _ _ _ _) rfl rfl rfl ⟨rfl, rfl⟩ ?_
      refine sj_if_eq C 46 36 rfl rfl dX7_toleranceFor_33 (fun c_33 => ?_) (fun c_33 => ?_)
      · refine sj_aload_n C 47 rfl dX7_toleranceFor_46 rfl rfl ?_
        refine sj_iconstv C (2) 48 rfl dX7_toleranceFor_47 rfl ?_
        refine sj_callVd C 51 rfl dX7_toleranceFor_48 cv_X7_46 rfl (ct_X7_fails _ hmz 2) rfl rfl rfl ⟨_, _, kd_h, rfl, rfl, by decide⟩ ⟨rfl, rfl⟩ ?_
        rw [sj_wFi_wFi]
        refine sj_iret C hR rfl rfl dX7_toleranceFor_51 ?_
        have e8 : sj_q_tol (sj_ia S (b 1)) (nI i) (nI d) w = (0, 2) := by
          unfold sj_q_tol
          rw [if_neg (fun h8 => h8.elim (fun h7 => c_10 (sj_bi0.mpr h7)) (fun h7 => c_18 (sj_bi0.mpr h7))), if_pos (sj_bi0.mp c_33)]
        rw [e8]
        exact ⟨rfl, _, (sj_sIa_id _ _).symm⟩
      · obtain ⟨k, hk9, rfl⟩ := sj_wi_nI (n := 5) (by omega) (sj_bin.mp c_33)
        refine sj_aload_n C 37 rfl dX7_toleranceFor_36 rfl rfl ?_
        refine sj_iload_n C 38 rfl dX7_toleranceFor_37 rfl rfl ?_
        refine sj_iload_n C 39 rfl dX7_toleranceFor_38 rfl rfl ?_
        refine sj_iload_n C 40 rfl dX7_toleranceFor_39 rfl rfl ?_
        refine sj_callVd C 43 rfl dX7_toleranceFor_40 cv_X7_242 rfl (ct_X7_tolerance _ hmz i d hvi hvd k (by omega)) rfl rfl rfl ⟨_, _, kd_h, rfl, rfl, by decide⟩ ⟨rfl, rfl⟩ ?_
        refine sj_goto C 51 rfl dX7_toleranceFor_43 ?_
        refine sj_iret C hR rfl rfl dX7_toleranceFor_51 ?_
        have e8 : sj_q_tol (sj_ia S (b 1)) (nI i) (nI d) (nI k) = (sj_tol (sj_ia S (b 1)) i d k, 0) := by
          unfold sj_q_tol
          rw [if_neg (fun h8 => h8.elim (fun h7 => c_10 (sj_bi0.mpr h7)) (fun h7 => c_18 (sj_bi0.mpr h7))), if_neg (fun h8 => c_33 (sj_bi0.mpr h8)), sj_tn_nI (show i < 2 ^ 31 by omega), sj_tn_nI (show d < 2 ^ 31 by omega), sj_tn_nI (show k < 2 ^ 31 by omega)]
        rw [e8]
        exact ⟨rfl, _, (sj_sIa_id _ _).symm⟩
    · refine sj_aload_n C 22 rfl dX7_toleranceFor_21 rfl rfl ?_
      refine sj_iconstv C (1) 23 rfl dX7_toleranceFor_22 rfl ?_
      refine sj_callVd C 26 rfl dX7_toleranceFor_23 cv_X7_46 rfl (ct_X7_fails _ hmz 1) rfl rfl rfl ⟨_, _, kd_h, rfl, rfl, by decide⟩ ⟨rfl, rfl⟩ ?_
      rw [sj_wFi_wFi]
      refine sj_iret C hR rfl rfl dX7_toleranceFor_26 ?_
      have e8 : sj_q_tol (sj_ia S (b 1)) v e w = (0, 1) := by
        unfold sj_q_tol
        rw [if_pos (Or.inr (sj_bi0.mp c_18))]
      rw [e8]
      exact ⟨rfl, _, (sj_sIa_id _ _).symm⟩
set_option maxRecDepth 100000 in
set_option maxHeartbeats 400000 in
theorem ct_X7_whyNot (l : Launch) {S : sj_St} {h : Nat} {b : Nat → Nat} {m : Nat → Int32} (hm : sj_mm S h b m) (hv : sj_oav m) (hs : sj_shs m) (v e : Int32) (like : Bool) : sj_Ctr l mX7_whyNot [.ref h, .int v, .int e, .int (sj_bi like)] S (sj_pq (sj_q_why m v e like) S h b) := by
  refine sj_start ([some (.ref h), some (.int v), some (.int e), some (.int (sj_bi like))]) (by decide +kernel) rfl rfl (fun X hX C hR => ?_)
  subst hX
  have hm0 := hm
  obtain ⟨hm', em⟩ := hm0
  subst em
  obtain ⟨kd_h, ⟨rf_h_1, kd_a1, il_a1⟩, ⟨rf_h_2, kd_a2, il_a2⟩, ⟨rf_h_3, kd_a3, il_a3⟩, ⟨rf_h_5, kd_a5, il_a5⟩, ⟨rf_h_7, kd_a7, il_a7⟩, ⟨rf_h_13, kd_a13, il_a13⟩, ⟨rf_h_15, kd_a15, il_a15⟩, hinj⟩ := hm'
  obtain ⟨⟨h9, hn8⟩, ⟨h10, hn28⟩, hoa⟩ := id hv
  have hmz := sj_mm_f hm h 0 0
  have hs' : ∀ i, i < sj_tn ((sj_ia S (b 1)) 9) → sj_shv (sj_ia S (b 1)) i := hs
  refine sj_aload_n C 1 rfl dX7_whyNot_0 rfl rfl ?_
  refine sj_iconstv C (0) 2 rfl dX7_whyNot_1 rfl ?_
  refine sj_putI C 5 rfl fd_X7_31 dX7_whyNot_2 rfl rfl kd_h ?_
  refine sj_aload_n C 6 rfl dX7_whyNot_5 rfl rfl ?_
  refine sj_iload_n C 7 rfl dX7_whyNot_6 rfl rfl ?_
  refine sj_callVd C 10 rfl dX7_whyNot_7 cv_X7_142 rfl (ct_X7_isSheet _ hmz _) rfl rfl rfl ⟨_, _, kd_h, rfl, rfl, by decide⟩ ⟨rfl, rfl⟩ ?_
  rw [show sj_bi (sj_wi v 0 ((sj_ia S (b 1)) 9 - 1)) = sj_bi (sj_isn (sj_ia S (b 1)) v) from rfl]
  refine sj_if_eq C 31 13 rfl rfl dX7_whyNot_10 (fun c_10 => ?_) (fun c_10 => ?_)
  · refine sj_aload_n C 32 rfl dX7_whyNot_31 rfl rfl ?_
    refine sj_iconstv C (1) 33 rfl dX7_whyNot_32 rfl ?_
    refine sj_callVd C 36 rfl dX7_whyNot_33 cv_X7_46 rfl (ct_X7_fails _ hmz 1) rfl rfl rfl ⟨_, _, kd_h, rfl, rfl, by decide⟩ ⟨rfl, rfl⟩ ?_
    rw [sj_wFi_wFi]
    refine sj_iret C hR rfl rfl dX7_whyNot_36 ?_
    have e8 : sj_q_why (sj_ia S (b 1)) v e like = (0, 1) := by
      unfold sj_q_why
      rw [if_pos (Or.inl (sj_bi0.mp c_10))]
    rw [e8]
    exact ⟨rfl, _, (sj_sIa_id _ _).symm⟩
  · refine sj_aload_n C 14 rfl dX7_whyNot_13 rfl rfl ?_
    refine sj_iload_n C 15 rfl dX7_whyNot_14 rfl rfl ?_
    refine sj_callVd C 18 rfl dX7_whyNot_15 cv_X7_142 rfl (ct_X7_isSheet _ hmz _) rfl rfl rfl ⟨_, _, kd_h, rfl, rfl, by decide⟩ ⟨rfl, rfl⟩ ?_
    rw [show sj_bi (sj_wi e 0 ((sj_ia S (b 1)) 9 - 1)) = sj_bi (sj_isn (sj_ia S (b 1)) e) from rfl]
    refine sj_if_eq C 31 21 rfl rfl dX7_whyNot_18 (fun c_18 => ?_) (fun c_18 => ?_)
    · refine sj_aload_n C 32 rfl dX7_whyNot_31 rfl rfl ?_
      refine sj_iconstv C (1) 33 rfl dX7_whyNot_32 rfl ?_
      refine sj_callVd C 36 rfl dX7_whyNot_33 cv_X7_46 rfl (ct_X7_fails _ hmz 1) rfl rfl rfl ⟨_, _, kd_h, rfl, rfl, by decide⟩ ⟨rfl, rfl⟩ ?_
      rw [sj_wFi_wFi]
      refine sj_iret C hR rfl rfl dX7_whyNot_36 ?_
      have e8 : sj_q_why (sj_ia S (b 1)) v e like = (0, 1) := by
        unfold sj_q_why
        rw [if_pos (Or.inr (sj_bi0.mp c_18))]
      rw [e8]
      exact ⟨rfl, _, (sj_sIa_id _ _).symm⟩
    · obtain ⟨i, hi9, rfl⟩ := sj_isn_n h9 hn8 (sj_bin.mp c_10)
      have hvi := hs' i hi9
      obtain ⟨d, hd9, rfl⟩ := sj_isn_n h9 hn8 (sj_bin.mp c_18)
      have hvd := hs' d hd9
      refine sj_aload_n C 22 rfl dX7_whyNot_21 rfl rfl ?_
      refine sj_iload_n C 23 rfl dX7_whyNot_22 rfl rfl ?_
      refine sj_iload_n C 24 rfl dX7_whyNot_23 rfl rfl ?_
      refine sj_iload_n C 25 rfl dX7_whyNot_24 rfl rfl ?_
      refine sj_callVp C 28 rfl dX7_whyNot_25 cv_X7_154 rfl (ct_X7_whyNotSworn _ hmz hv i d hvi hvd like) rfl rfl rfl ⟨_, _, kd_h, rfl, rfl, by decide⟩ ⟨rfl, rfl⟩ (fun v_25 S_25 hp_25 => ?_)
      obtain ⟨rfl, g_25, rfl⟩ := hp_25
      refine sj_goto C 36 rfl dX7_whyNot_28 ?_
      refine sj_iret C hR rfl rfl dX7_whyNot_36 ?_
      have e8 : sj_q_why (sj_ia S (b 1)) (nI i) (nI d) like = (sj_why (sj_ia S (b 1)) i d like, 0) := by
        unfold sj_q_why
        rw [if_neg (fun h8 => h8.elim (fun h7 => c_10 (sj_bi0.mpr h7)) (fun h7 => c_18 (sj_bi0.mpr h7))), sj_tn_nI (show i < 2 ^ 31 by omega), sj_tn_nI (show d < 2 ^ 31 by omega)]
      rw [e8]
      exact ⟨rfl, _, rfl⟩
set_option maxRecDepth 100000 in
set_option maxHeartbeats 400000 in
theorem ct_X7_nearest (l : Launch) {S : sj_St} {h : Nat} {b : Nat → Nat} {m : Nat → Int32} (hm : sj_mm S h b m) (hv : sj_oav m) (hs : sj_shs m) (v : Int32) : sj_Ctr l mX7_nearest [.ref h, .int v] S (sj_pq (sj_q_near m v) S h b) := by
  refine sj_start ([some (.ref h), some (.int v)]) (by decide +kernel) rfl rfl (fun X hX C hR => ?_)
  subst hX
  have hm0 := hm
  obtain ⟨hm', em⟩ := hm0
  subst em
  obtain ⟨kd_h, ⟨rf_h_1, kd_a1, il_a1⟩, ⟨rf_h_2, kd_a2, il_a2⟩, ⟨rf_h_3, kd_a3, il_a3⟩, ⟨rf_h_5, kd_a5, il_a5⟩, ⟨rf_h_7, kd_a7, il_a7⟩, ⟨rf_h_13, kd_a13, il_a13⟩, ⟨rf_h_15, kd_a15, il_a15⟩, hinj⟩ := hm'
  obtain ⟨⟨h9, hn8⟩, ⟨h10, hn28⟩, hoa⟩ := id hv
  have hmz := sj_mm_f hm h 0 0
  have hs' : ∀ i, i < sj_tn ((sj_ia S (b 1)) 9) → sj_shv (sj_ia S (b 1)) i := hs
  refine sj_aload_n C 1 rfl dX7_nearest_0 rfl rfl ?_
  refine sj_iconstv C (0) 2 rfl dX7_nearest_1 rfl ?_
  refine sj_putI C 5 rfl fd_X7_31 dX7_nearest_2 rfl rfl kd_h ?_
  refine sj_aload_n C 6 rfl dX7_nearest_5 rfl rfl ?_
  refine sj_iload_n C 7 rfl dX7_nearest_6 rfl rfl ?_
  refine sj_callVd C 10 rfl dX7_nearest_7 cv_X7_142 rfl (ct_X7_isSheet _ hmz _) rfl rfl rfl ⟨_, _, kd_h, rfl, rfl, by decide⟩ ⟨rfl, rfl⟩ ?_
  rw [show sj_bi (sj_wi v 0 ((sj_ia S (b 1)) 9 - 1)) = sj_bi (sj_isn (sj_ia S (b 1)) v) from rfl]
  refine sj_if_eq C 21 13 rfl rfl dX7_nearest_10 (fun c_10 => ?_) (fun c_10 => ?_)
  · refine sj_aload_n C 22 rfl dX7_nearest_21 rfl rfl ?_
    refine sj_iconstv C (1) 23 rfl dX7_nearest_22 rfl ?_
    refine sj_callVd C 26 rfl dX7_nearest_23 cv_X7_46 rfl (ct_X7_fails _ hmz 1) rfl rfl rfl ⟨_, _, kd_h, rfl, rfl, by decide⟩ ⟨rfl, rfl⟩ ?_
    rw [sj_wFi_wFi]
    refine sj_iret C hR rfl rfl dX7_nearest_26 ?_
    have e8 : sj_q_near (sj_ia S (b 1)) v = (0, 1) := by
      unfold sj_q_near
      rw [if_pos (sj_bi0.mp c_10)]
    rw [e8]
    exact ⟨rfl, _, (sj_sIa_id _ _).symm⟩
  · obtain ⟨i, hi9, rfl⟩ := sj_isn_n h9 hn8 (sj_bin.mp c_10)
    have hvi := hs' i hi9
    refine sj_aload_n C 14 rfl dX7_nearest_13 rfl rfl ?_
    refine sj_iload_n C 15 rfl dX7_nearest_14 rfl rfl ?_
    refine sj_callVd C 18 rfl dX7_nearest_15 cv_X7_239 rfl (ct_X7_mostAlike _ hmz hv hs i hi9) rfl rfl rfl ⟨_, _, kd_h, rfl, rfl, by decide⟩ ⟨rfl, rfl⟩ ?_
    refine sj_goto C 26 rfl dX7_nearest_18 ?_
    refine sj_iret C hR rfl rfl dX7_nearest_26 ?_
    have e8 : sj_q_near (sj_ia S (b 1)) (nI i) = (sj_on (sj_mal (sj_ia S (b 1)) i (sj_tn ((sj_ia S (b 1)) 9))), 0) := by
      unfold sj_q_near
      rw [if_neg (fun h8 => c_10 (sj_bi0.mpr h8)), sj_tn_nI (show i < 2 ^ 31 by omega)]
    rw [e8]
    exact ⟨rfl, _, (sj_sIa_id _ _).symm⟩
set_option maxRecDepth 100000 in
set_option maxHeartbeats 400000 in
theorem ct_X7_oath (l : Launch) {S : sj_St} {h : Nat} {b : Nat → Nat} {m : Nat → Int32} (hm : sj_mm S h b m) (hv : sj_oav m) (hs : sj_shs m) (k w : Int32) : sj_Ctr l mX7_oath [.ref h, .int k, .int w] S (sj_pq (sj_q_oath m k w) S h b) := by
  refine sj_start ([some (.ref h), some (.int k), some (.int w)]) (by decide +kernel) rfl rfl (fun X hX C hR => ?_)
  subst hX
  have hm0 := hm
  obtain ⟨hm', em⟩ := hm0
  subst em
  obtain ⟨kd_h, ⟨rf_h_1, kd_a1, il_a1⟩, ⟨rf_h_2, kd_a2, il_a2⟩, ⟨rf_h_3, kd_a3, il_a3⟩, ⟨rf_h_5, kd_a5, il_a5⟩, ⟨rf_h_7, kd_a7, il_a7⟩, ⟨rf_h_13, kd_a13, il_a13⟩, ⟨rf_h_15, kd_a15, il_a15⟩, hinj⟩ := hm'
  obtain ⟨⟨h9, hn8⟩, ⟨h10, hn28⟩, hoa⟩ := id hv
  have hmz := sj_mm_f hm h 0 0
  have hs' : ∀ i, i < sj_tn ((sj_ia S (b 1)) 9) → sj_shv (sj_ia S (b 1)) i := hs
  refine sj_aload_n C 1 rfl dX7_oath_0 rfl rfl ?_
  refine sj_iconstv C (0) 2 rfl dX7_oath_1 rfl ?_
  refine sj_putI C 5 rfl fd_X7_31 dX7_oath_2 rfl rfl kd_h ?_
  refine sj_iload_n C 6 rfl dX7_oath_5 rfl rfl ?_
  refine sj_if_lt C 27 9 rfl rfl dX7_oath_6 (fun c_6 => ?_) (fun c_6 => ?_)
  · refine sj_aload_n C 28 rfl dX7_oath_27 rfl rfl ?_
    refine sj_iconstv C (1) 29 rfl dX7_oath_28 rfl ?_
    refine sj_callVd C 32 rfl dX7_oath_29 cv_X7_46 rfl (ct_X7_fails _ hmz 1) rfl rfl rfl ⟨_, _, kd_h, rfl, rfl, by decide⟩ ⟨rfl, rfl⟩ ?_
    rw [sj_wFi_wFi]
    refine sj_iret C hR rfl rfl dX7_oath_32 ?_
    have e8 : sj_q_oath (sj_ia S (b 1)) k w = (0, 1) := by
      unfold sj_q_oath
      rw [if_pos (Or.inl c_6)]
    rw [e8]
    exact ⟨rfl, _, (sj_sIa_id _ _).symm⟩
  · refine sj_iload_n C 10 rfl dX7_oath_9 rfl rfl ?_
    refine sj_iconstv C (0) 11 rfl dX7_oath_10 rfl ?_
    refine sj_iconstv C (3) 12 rfl dX7_oath_11 rfl ?_
    refine sj_callSd C 15 rfl dX7_oath_12 cv_X7_35 rfl (ct_X7_within _ _ _ _ _) rfl rfl rfl ⟨rfl, rfl⟩ ?_
    refine sj_if_eq C 27 18 rfl rfl dX7_oath_15 (fun c_15 => ?_) (fun c_15 => ?_)
    · refine sj_aload_n C 28 rfl dX7_oath_27 rfl rfl ?_
      refine sj_iconstv C (1) 29 rfl dX7_oath_28 rfl ?_
      refine sj_callVd C 32 rfl dX7_oath_29 cv_X7_46 rfl (ct_X7_fails _ hmz 1) rfl rfl rfl ⟨_, _, kd_h, rfl, rfl, by decide⟩ ⟨rfl, rfl⟩ ?_
      rw [sj_wFi_wFi]
      refine sj_iret C hR rfl rfl dX7_oath_32 ?_
      have e8 : sj_q_oath (sj_ia S (b 1)) k w = (0, 1) := by
        unfold sj_q_oath
        rw [if_pos (Or.inr (sj_bi0.mp c_15))]
      rw [e8]
      exact ⟨rfl, _, (sj_sIa_id _ _).symm⟩
    · obtain ⟨i, hi9, rfl⟩ := nI_of c_6
      obtain ⟨y, hy9, rfl⟩ := sj_wi_nI (n := 3) (by omega) (sj_bin.mp c_15)
      refine sj_aload_n C 19 rfl dX7_oath_18 rfl rfl ?_
      refine sj_iload_n C 20 rfl dX7_oath_19 rfl rfl ?_
      refine sj_iload_n C 21 rfl dX7_oath_20 rfl rfl ?_
      refine sj_callVp C 24 rfl dX7_oath_21 cv_X7_221 rfl (ct_X7_tellsOath _ hmz hv i y hi9 (by omega)) rfl rfl rfl ⟨_, _, kd_h, rfl, rfl, by decide⟩ ⟨rfl, rfl⟩ (fun v_21 S_21 hp_21 => ?_)
      obtain ⟨rfl, g_21, rfl⟩ := hp_21
      refine sj_goto C 32 rfl dX7_oath_24 ?_
      refine sj_iret C hR rfl rfl dX7_oath_32 ?_
      have e8 : sj_q_oath (sj_ia S (b 1)) (nI i) (nI y) = (sj_tlo (sj_ia S (b 1)) i y, 0) := by
        unfold sj_q_oath
        rw [if_neg (fun h8 => h8.elim c_6 (fun h7 => c_15 (sj_bi0.mpr h7))), sj_tn_nI hi9, sj_tn_nI (show y < 2 ^ 31 by omega)]
      rw [e8]
      exact ⟨rfl, _, rfl⟩
set_option maxRecDepth 100000 in
set_option maxHeartbeats 400000 in
theorem ct_X7_count (l : Launch) {S : sj_St} {h : Nat} {b : Nat → Nat} {m : Nat → Int32} (hm : sj_mm S h b m) (hv : sj_oav m) (hs : sj_shs m) (w : Int32) : sj_Ctr l mX7_count [.ref h, .int w] S (sj_pq (sj_q_count m (sj_fi S h 4) w) S h b) := by
  refine sj_start ([some (.ref h), some (.int w)]) (by decide +kernel) rfl rfl (fun X hX C hR => ?_)
  subst hX
  have hm0 := hm
  obtain ⟨hm', em⟩ := hm0
  subst em
  obtain ⟨kd_h, ⟨rf_h_1, kd_a1, il_a1⟩, ⟨rf_h_2, kd_a2, il_a2⟩, ⟨rf_h_3, kd_a3, il_a3⟩, ⟨rf_h_5, kd_a5, il_a5⟩, ⟨rf_h_7, kd_a7, il_a7⟩, ⟨rf_h_13, kd_a13, il_a13⟩, ⟨rf_h_15, kd_a15, il_a15⟩, hinj⟩ := hm'
  obtain ⟨⟨h9, hn8⟩, ⟨h10, hn28⟩, hoa⟩ := id hv
  have hmz := sj_mm_f hm h 0 0
  have hs' : ∀ i, i < sj_tn ((sj_ia S (b 1)) 9) → sj_shv (sj_ia S (b 1)) i := hs
  refine sj_aload_n C 1 rfl dX7_count_0 rfl rfl ?_
  refine sj_iconstv C (0) 2 rfl dX7_count_1 rfl ?_
  refine sj_putI C 5 rfl fd_X7_31 dX7_count_2 rfl rfl kd_h ?_
  refine sj_iload_n C 6 rfl dX7_count_5 rfl rfl ?_
  refine sj_iconstv C (0) 7 rfl dX7_count_6 rfl ?_
  refine sj_bipush C (17) 9 rfl dX7_count_7 (by decide) ?_
  refine sj_callSd C 12 rfl dX7_count_9 cv_X7_35 rfl (ct_X7_within _ _ _ _ _) rfl rfl rfl ⟨rfl, rfl⟩ ?_
  refine sj_if_eq C 23 15 rfl rfl dX7_count_12 (fun c_12 => ?_) (fun c_12 => ?_)
  · refine sj_aload_n C 24 rfl dX7_count_23 rfl rfl ?_
    refine sj_iconstv C (1) 25 rfl dX7_count_24 rfl ?_
    refine sj_callVd C 28 rfl dX7_count_25 cv_X7_46 rfl (ct_X7_fails _ hmz 1) rfl rfl rfl ⟨_, _, kd_h, rfl, rfl, by decide⟩ ⟨rfl, rfl⟩ ?_
    rw [sj_wFi_wFi]
    refine sj_iret C hR rfl rfl dX7_count_28 ?_
    have e8 : sj_q_count (sj_ia S (b 1)) (sj_fi S h 4) w = (0, 1) := by
      unfold sj_q_count
      rw [if_pos (sj_bi0.mp c_12)]
    rw [e8]
    exact ⟨rfl, _, (sj_sIa_id _ _).symm⟩
  · obtain ⟨y, hy9, rfl⟩ := sj_wi_nI (n := 17) (by omega) (sj_bin.mp c_12)
    refine sj_aload_n C 16 rfl dX7_count_15 rfl rfl ?_
    refine sj_iload_n C 17 rfl dX7_count_16 rfl rfl ?_
    refine sj_callVp C 20 rfl dX7_count_17 cv_X7_236 rfl (ct_X7_tellsCount _ hmz hv hs y (by omega)) rfl rfl rfl ⟨_, _, kd_h, rfl, rfl, by decide⟩ ⟨rfl, rfl⟩ (fun v_17 S_17 hp_17 => ?_)
    obtain ⟨rfl, g_17, rfl⟩ := hp_17
    refine sj_goto C 28 rfl dX7_count_20 ?_
    refine sj_iret C hR rfl rfl dX7_count_28 ?_
    have e8 : sj_q_count (sj_ia S (b 1)) (sj_fi S h 4) (nI y) = (sj_tc (sj_ia S (b 1)) (sj_fi S h 4) y, 0) := by
      unfold sj_q_count
      rw [if_neg (fun h8 => c_12 (sj_bi0.mpr h8)), sj_tn_nI (show y < 2 ^ 31 by omega)]
    rw [e8]
    refine ⟨?_, _, rfl⟩
    rw [show sj_fi (sj_wFi S h 0 0) h 4 = sj_fi S h 4 from sj_fi_wFi_k S h _ (by omega)]
set_option maxRecDepth 100000 in
set_option maxHeartbeats 400000 in
theorem ct_X7_stopped (l : Launch) {S : sj_St} {h : Nat} {b : Nat → Nat} {m : Nat → Int32} (hm : sj_mm S h b m) (hv : sj_oav m) (hs : sj_shs m) (w : Int32) : sj_Ctr l mX7_stopped [.ref h, .int w] S (sj_pq (sj_q_stop m w) S h b) := by
  refine sj_start ([some (.ref h), some (.int w)]) (by decide +kernel) rfl rfl (fun X hX C hR => ?_)
  subst hX
  have hm0 := hm
  obtain ⟨hm', em⟩ := hm0
  subst em
  obtain ⟨kd_h, ⟨rf_h_1, kd_a1, il_a1⟩, ⟨rf_h_2, kd_a2, il_a2⟩, ⟨rf_h_3, kd_a3, il_a3⟩, ⟨rf_h_5, kd_a5, il_a5⟩, ⟨rf_h_7, kd_a7, il_a7⟩, ⟨rf_h_13, kd_a13, il_a13⟩, ⟨rf_h_15, kd_a15, il_a15⟩, hinj⟩ := hm'
  obtain ⟨⟨h9, hn8⟩, ⟨h10, hn28⟩, hoa⟩ := id hv
  have hmz := sj_mm_f hm h 0 0
  have hs' : ∀ i, i < sj_tn ((sj_ia S (b 1)) 9) → sj_shv (sj_ia S (b 1)) i := hs
  refine sj_aload_n C 1 rfl dX7_stopped_0 rfl rfl ?_
  refine sj_iconstv C (0) 2 rfl dX7_stopped_1 rfl ?_
  refine sj_putI C 5 rfl fd_X7_31 dX7_stopped_2 rfl rfl kd_h ?_
  refine sj_iload_n C 6 rfl dX7_stopped_5 rfl rfl ?_
  refine sj_iconstv C (0) 7 rfl dX7_stopped_6 rfl ?_
  refine sj_iconstv C (1) 8 rfl dX7_stopped_7 rfl ?_
  refine sj_callSd C 11 rfl dX7_stopped_8 cv_X7_35 rfl (ct_X7_within _ _ _ _ _) rfl rfl rfl ⟨rfl, rfl⟩ ?_
  refine sj_if_eq C 26 14 rfl rfl dX7_stopped_11 (fun c_11 => ?_) (fun c_11 => ?_)
  · refine sj_aload_n C 27 rfl dX7_stopped_26 rfl rfl ?_
    refine sj_iconstv C (1) 28 rfl dX7_stopped_27 rfl ?_
    refine sj_callVd C 31 rfl dX7_stopped_28 cv_X7_46 rfl (ct_X7_fails _ hmz 1) rfl rfl rfl ⟨_, _, kd_h, rfl, rfl, by decide⟩ ⟨rfl, rfl⟩ ?_
    rw [sj_wFi_wFi]
    refine sj_iret C hR rfl rfl dX7_stopped_31 ?_
    have e8 : sj_q_stop (sj_ia S (b 1)) w = (0, 1) := by
      unfold sj_q_stop
      rw [if_pos (sj_bi0.mp c_11)]
    rw [e8]
    exact ⟨rfl, _, (sj_sIa_id _ _).symm⟩
  · obtain ⟨y, hy9, rfl⟩ := sj_wi_nI (n := 1) (by omega) (sj_bin.mp c_11)
    refine sj_aload_n C 15 rfl dX7_stopped_14 rfl rfl ?_
    refine sj_getr C 18 rfl fd_X7_7 dX7_stopped_15 kd_h rf_h_1 ?_
    refine sj_bipush C (12) 20 rfl dX7_stopped_18 (by decide) ?_
    refine sj_iload_n C 21 rfl dX7_stopped_20 rfl rfl ?_
    refine sj_iadd C 22 rfl dX7_stopped_21 ?_
    rw [show (12 : Int32) + nI y = nI (12 + y) from nI_add 12 y]
    refine sj_iald C 23 rfl dX7_stopped_22 kd_a1 (by show vp_in (nI (12 + y)) (sj_il S (b 1)); rw [il_a1]; exact vp_in_nI (by omega) (by omega)) ?_
    refine sj_goto C 31 rfl dX7_stopped_23 ?_
    refine sj_iret C hR rfl rfl dX7_stopped_31 ?_
    have e8 : sj_q_stop (sj_ia S (b 1)) (nI y) = ((sj_ia S (b 1)) (12 + y), 0) := by
      unfold sj_q_stop
      rw [if_neg (fun h8 => c_11 (sj_bi0.mpr h8)), sj_tn_nI (show y < 2 ^ 31 by omega)]
    rw [e8]
    refine ⟨?_, _, (sj_sIa_id _ _).symm⟩
    rw [nI_clamp (by omega)]
    rfl
