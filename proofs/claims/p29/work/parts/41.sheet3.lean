/-! THE CLASS: a sheet's strokes and marks -/
def sq_sh (S : sj_St) (a rn cn rm cm n : Nat) : Prop := sj_kd S a = some 3 ∧ sj_fi S a 0 = nI n ∧ n ≤ 8 ∧ sj_rf S a 1 = some rn ∧ sj_rw S rn cn 40 ∧ sj_rf S a 2 = some rm ∧ sj_rw S rm cm 6
def sj_ss (f : Nat → Int32) (k w : Nat) : Int32 := f (5 * k + w)
theorem sj_i5 (k w : Nat) : nI k * 5 + nI w = nI (5 * k + w) := by
  rw [show nI k * 5 = nI (k * 5) from sj_nmul k 5, nI_add, Nat.mul_comm]
def sj_tt (f : Nat → Int32) (n w : Nat) : Int32 := sj_sum (fun k => sj_ss f k w) n
set_option maxRecDepth 100000 in
set_option maxHeartbeats 1000000 in
theorem ct_X3_numberOf (l : Launch) {S : sj_St} {a rn cn rm cm n : Nat} (h : sq_sh S a rn cn rm cm n) (k w : Nat) (hk : k < 8) (hw : w < 5) : sj_Ctr l mX3_numberOf [.ref a, .int (nI k), .int (nI w)] S (sj_eq (some (.int (sj_ss (sj_ia S cn) k w))) S) := by
  refine sj_start ([some (.ref a), some (.int (nI k)), some (.int (nI w))]) (by decide +kernel) rfl rfl (fun X hX C hR => ?_)
  subst hX
  obtain ⟨kd_a, hn0, hn8, rf_a_1, hrn, rf_a_2, hrm⟩ := id h
  have kd_rn := hrn.1
  have kd_rm := hrm.1
  refine sj_aload_n C 1 rfl dX3_numberOf_0 rfl rfl ?_
  refine sj_getr C 4 rfl fd_X3_24 dX3_numberOf_1 kd_a rf_a_1 ?_
  refine sj_iload_n C 5 rfl dX3_numberOf_4 rfl rfl ?_
  refine sj_iconstv C (5) 6 rfl dX3_numberOf_5 rfl ?_
  refine sj_imul C 7 rfl dX3_numberOf_6 ?_
  refine sj_iload_n C 8 rfl dX3_numberOf_7 rfl rfl ?_
  refine sj_iadd C 9 rfl dX3_numberOf_8 ?_
  refine sj_callVd C 12 rfl dX3_numberOf_9 cv_X3_56 rfl (ct_X2_at _ hrn _) rfl rfl rfl ⟨_, _, kd_rn, rfl, rfl, by decide⟩ ⟨rfl, rfl⟩ ?_
  rw [sj_i5, sj_at_nI _ (by omega) (by omega)]
  refine sj_iret C hR rfl rfl dX3_numberOf_12 ?_
  exact ⟨rfl, rfl⟩
set_option maxRecDepth 100000 in
set_option maxHeartbeats 1000000 in
theorem ct_X3_total (l : Launch) {S : sj_St} {a rn cn rm cm n : Nat} (h : sq_sh S a rn cn rm cm n) (w : Nat) (hw : w < 5) : sj_Ctr l mX3_total [.ref a, .int (nI w)] S (sj_eq (some (.int (sj_tt (sj_ia S cn) n w))) S) := by
  refine sj_start ([some (.ref a), some (.int (nI w)), none, none]) (by decide +kernel) rfl rfl (fun X hX C hR => ?_)
  subst hX
  obtain ⟨kd_a, hn0, hn8, rf_a_1, hrn, rf_a_2, hrm⟩ := id h
  have kd_rn := hrn.1
  have kd_rm := hrm.1
  have cut_4 : sj_G X S 0 0 [some (.ref a), some (.int (nI w)), some (.int (sj_tt (sj_ia S cn) 0 w)), some (.int (nI 0))] 4 [] := by
    refine sj_down (fun k => sj_G X S 0 0 [some (.ref a), some (.int (nI w)), some (.int (sj_tt (sj_ia S cn) k w)), some (.int (nI k))] 4 []) (n) (fun k hk ih => ?_)
    refine sj_iload_n C 5 rfl dX3_total_4 rfl rfl ?_
    refine sj_aload_n C 6 rfl dX3_total_5 rfl rfl ?_
    refine sj_getI C 9 rfl fd_X3_20 dX3_total_6 kd_a ?_
    rw [hn0]
    refine sj_icmp_ge C 27 12 rfl rfl dX3_total_9 (fun c_9 => ?_) (fun c_9 => ?_)
    · have hkn : k = n := by
        have h8 : ¬ k < n := fun h7 => nI_ge h7 (by omega) c_9
        omega
      subst hkn
      refine sj_iload_n C 28 rfl dX3_total_27 rfl rfl ?_
      refine sj_iret C hR rfl rfl dX3_total_28 ?_
      exact ⟨rfl, rfl⟩
    · have hlt : k < n := Nat.not_le.mp fun h8 => c_9 (nI_le h8 (by omega))
      refine sj_iload_n C 13 rfl dX3_total_12 rfl rfl ?_
      refine sj_aload_n C 14 rfl dX3_total_13 rfl rfl ?_
      refine sj_iload_n C 15 rfl dX3_total_14 rfl rfl ?_
      refine sj_iload_n C 16 rfl dX3_total_15 rfl rfl ?_
      refine sj_callVd C 19 rfl dX3_total_16 cv_X3_53 rfl (ct_X3_numberOf _ h (k) w (by omega) hw) rfl rfl rfl ⟨_, _, kd_a, rfl, rfl, by decide⟩ ⟨rfl, rfl⟩ ?_
      refine sj_iadd C 20 rfl dX3_total_19 ?_
      refine sj_istore_n_2 C 21 rfl dX3_total_20 rfl rfl ?_
      refine sj_iinc_3 C 24 rfl dX3_total_21 rfl rfl ?_
      refine sj_goto C 4 rfl dX3_total_24 ?_
      rw [sj_n1]
      exact ih (by omega)
  refine sj_iconstv C (0) 1 rfl dX3_total_0 rfl ?_
  refine sj_istore_n_2 C 2 rfl dX3_total_1 rfl rfl ?_
  refine sj_iconstv C (0) 3 rfl dX3_total_2 rfl ?_
  refine sj_istore_n_3 C 4 rfl dX3_total_3 rfl rfl ?_
  exact cut_4
set_option maxRecDepth 100000 in
set_option maxHeartbeats 1000000 in
theorem ct_X3_toldNumber (l : Launch) {S : sj_St} {a rn cn rm cm n : Nat} (h : sq_sh S a rn cn rm cm n) (k w : Nat) (hk : k < 8) (hw : w < 5) : sj_Ctr l mX3_toldNumber [.ref a, .int (nI k), .int (nI w)] S (sj_eq (some (.int (if nI n ≤ nI k then -1 else sj_ss (sj_ia S cn) k w + (if w = 0 then 100 else 0)))) S) := by
  refine sj_start ([some (.ref a), some (.int (nI k)), some (.int (nI w))]) (by decide +kernel) rfl rfl (fun X hX C hR => ?_)
  subst hX
  obtain ⟨kd_a, hn0, hn8, rf_a_1, hrn, rf_a_2, hrm⟩ := id h
  have kd_rn := hrn.1
  have kd_rm := hrm.1
  refine sj_iload_n C 1 rfl dX3_toldNumber_0 rfl rfl ?_
  refine sj_aload_n C 2 rfl dX3_toldNumber_1 rfl rfl ?_
  refine sj_getI C 5 rfl fd_X3_20 dX3_toldNumber_2 kd_a ?_
  rw [hn0]
  refine sj_icmp_lt C 10 8 rfl rfl dX3_toldNumber_5 (fun c_5 => ?_) (fun c_5 => ?_)
  · refine sj_aload_n C 11 rfl dX3_toldNumber_10 rfl rfl ?_
    refine sj_iload_n C 12 rfl dX3_toldNumber_11 rfl rfl ?_
    refine sj_iload_n C 13 rfl dX3_toldNumber_12 rfl rfl ?_
    refine sj_callVd C 16 rfl dX3_toldNumber_13 cv_X3_53 rfl (ct_X3_numberOf _ h (k) w hk hw) rfl rfl rfl ⟨_, _, kd_a, rfl, rfl, by decide⟩ ⟨rfl, rfl⟩ ?_
    refine sj_iload_n C 17 rfl dX3_toldNumber_16 rfl rfl ?_
    refine sj_if_ne C 25 20 rfl rfl dX3_toldNumber_17 (fun c_17 => ?_) (fun c_17 => ?_)
    · refine sj_iconstv C (0) 26 rfl dX3_toldNumber_25 rfl ?_
      refine sj_iadd C 27 rfl dX3_toldNumber_26 ?_
      refine sj_iret C hR rfl rfl dX3_toldNumber_27 ?_
      refine ⟨congrArg (fun z => some (Value.int z)) ?_, rfl⟩
      rw [if_neg (sj_nle.mpr c_5), if_neg (fun e9 => c_17 (by rw [e9]; rfl))]
    · refine sj_bipush C (100) 22 rfl dX3_toldNumber_20 (by decide) ?_
      refine sj_goto C 26 rfl dX3_toldNumber_22 ?_
      refine sj_iadd C 27 rfl dX3_toldNumber_26 ?_
      refine sj_iret C hR rfl rfl dX3_toldNumber_27 ?_
      refine ⟨congrArg (fun z => some (Value.int z)) ?_, rfl⟩
      rw [if_neg (sj_nle.mpr c_5), if_pos ((nI_eq (b := 0) (by omega) (by omega)).mp c_17)]
  · refine sj_iconstv C (-1) 9 rfl dX3_toldNumber_8 rfl ?_
    refine sj_iret C hR rfl rfl dX3_toldNumber_9 ?_
    refine ⟨congrArg (fun z => some (Value.int z)) ?_, rfl⟩
    rw [if_pos (sj_nlt.mp c_5)]
set_option maxRecDepth 100000 in
set_option maxHeartbeats 1000000 in
theorem ct_X3_toldMark (l : Launch) {S : sj_St} {a rn cn rm cm n : Nat} (h : sq_sh S a rn cn rm cm n) (j : Nat) (hj : j < 6) : sj_Ctr l mX3_toldMark [.ref a, .int (nI j)] S (sj_eq (some (.int ((sj_ia S cm) j + 1000))) S) := by
  refine sj_start ([some (.ref a), some (.int (nI j))]) (by decide +kernel) rfl rfl (fun X hX C hR => ?_)
  subst hX
  obtain ⟨kd_a, hn0, hn8, rf_a_1, hrn, rf_a_2, hrm⟩ := id h
  have kd_rn := hrn.1
  have kd_rm := hrm.1
  refine sj_aload_n C 1 rfl dX3_toldMark_0 rfl rfl ?_
  refine sj_getr C 4 rfl fd_X3_14 dX3_toldMark_1 kd_a rf_a_2 ?_
  refine sj_iload_n C 5 rfl dX3_toldMark_4 rfl rfl ?_
  refine sj_callVd C 8 rfl dX3_toldMark_5 cv_X3_56 rfl (ct_X2_at _ hrm _) rfl rfl rfl ⟨_, _, kd_rm, rfl, rfl, by decide⟩ ⟨rfl, rfl⟩ ?_
  rw [sj_at_nI _ (by omega) (by omega)]
  refine sj_sipush C (1000) 11 rfl dX3_toldMark_8 (by decide) ?_
  refine sj_iadd C 12 rfl dX3_toldMark_11 ?_
  refine sj_iret C hR rfl rfl dX3_toldMark_12 ?_
  exact ⟨rfl, rfl⟩
def sj_mean (a b : Int32) : Int32 := if b ≤ 0 then 0 else sj_fd a b
theorem sj_le0 {b : Int32} (h : 0 < b) : ¬ b = 0 := fun e => by rw [e] at h; exact absurd h (by decide)
set_option maxRecDepth 100000 in
set_option maxHeartbeats 1000000 in
theorem ct_X3_mean (l : Launch) (S : sj_St) (a b : Int32) : sj_Ctr l mX3_mean [.int a, .int b] S (sj_eq (some (.int (sj_mean a b))) S) := by
  refine sj_start ([some (.int a), some (.int b)]) (by decide +kernel) rfl rfl (fun X hX C hR => ?_)
  subst hX
  refine sj_iload_n C 1 rfl dX3_mean_0 rfl rfl ?_
  refine sj_if_gt C 8 4 rfl rfl dX3_mean_1 (fun c_1 => ?_) (fun c_1 => ?_)
  · refine sj_iload_n C 9 rfl dX3_mean_8 rfl rfl ?_
    refine sj_iload_n C 10 rfl dX3_mean_9 rfl rfl ?_
    refine sj_callSd C 13 rfl dX3_mean_10 cv_X3_80 rfl (ct_floorDiv _ _ _ _ (sj_le0 c_1)) rfl rfl rfl ⟨rfl, rfl⟩ ?_
    refine sj_iret C hR rfl rfl dX3_mean_13 ?_
    refine ⟨congrArg (fun z => some (Value.int z)) ?_, rfl⟩
    unfold sj_mean
    rw [if_neg (sj_nle.mpr c_1)]
  · refine sj_iconstv C (0) 5 rfl dX3_mean_4 rfl ?_
    refine sj_goto C 13 rfl dX3_mean_5 ?_
    refine sj_iret C hR rfl rfl dX3_mean_13 ?_
    refine ⟨congrArg (fun z => some (Value.int z)) ?_, rfl⟩
    unfold sj_mean
    rw [if_pos (sj_nlt.mp c_1)]
set_option maxRecDepth 100000 in
set_option maxHeartbeats 1000000 in
theorem ct_X3_slantRange (l : Launch) {S : sj_St} {a rn cn rm cm n : Nat} (h : sq_sh S a rn cn rm cm n) : sj_Ctr l mX3_slantRange [.ref a] S (sj_eq (some (.int (sj_mx (fun k => sj_ss (sj_ia S cn) k 0) (n - 1) - sj_mn (fun k => sj_ss (sj_ia S cn) k 0) (n - 1)))) S) := by
  refine sj_start ([some (.ref a), none, none, none]) (by decide +kernel) rfl rfl (fun X hX C hR => ?_)
  subst hX
  obtain ⟨kd_a, hn0, hn8, rf_a_1, hrn, rf_a_2, hrm⟩ := id h
  have kd_rn := hrn.1
  have kd_rm := hrm.1
  have cut_11 : sj_G X S 0 0 [some (.ref a), some (.int (sj_mn (fun k => sj_ss (sj_ia S cn) k 0) 0)), some (.int (sj_mx (fun k => sj_ss (sj_ia S cn) k 0) 0)), some (.int (nI (0 + 1)))] 11 [] := by
    refine sj_down (fun k => sj_G X S 0 0 [some (.ref a), some (.int (sj_mn (fun k => sj_ss (sj_ia S cn) k 0) k)), some (.int (sj_mx (fun k => sj_ss (sj_ia S cn) k 0) k)), some (.int (nI (k + 1)))] 11 []) (n - 1) (fun k hk ih => ?_)
    refine sj_iload_n C 12 rfl dX3_slantRange_11 rfl rfl ?_
    refine sj_aload_n C 13 rfl dX3_slantRange_12 rfl rfl ?_
    refine sj_getI C 16 rfl fd_X3_20 dX3_slantRange_13 kd_a ?_
    rw [hn0]
    refine sj_icmp_ge C 47 19 rfl rfl dX3_slantRange_16 (fun c_16 => ?_) (fun c_16 => ?_)
    · have hkn : k = n - 1 := by
        have h8 : ¬ k < n - 1 := fun h7 => nI_ge (a := k + 1) (b := n) (by omega) (by omega) c_16
        omega
      subst hkn
      refine sj_iload_n C 48 rfl dX3_slantRange_47 rfl rfl ?_
      refine sj_iload_n C 49 rfl dX3_slantRange_48 rfl rfl ?_
      refine sj_isub C 50 rfl dX3_slantRange_49 ?_
      refine sj_iret C hR rfl rfl dX3_slantRange_50 ?_
      exact ⟨rfl, rfl⟩
    · have hlt : k < n - 1 := Nat.not_le.mp fun h8 => c_16 (nI_le (by omega) (by omega))
      refine sj_iload_n C 20 rfl dX3_slantRange_19 rfl rfl ?_
      refine sj_aload_n C 21 rfl dX3_slantRange_20 rfl rfl ?_
      refine sj_iload_n C 22 rfl dX3_slantRange_21 rfl rfl ?_
      refine sj_iconstv C (0) 23 rfl dX3_slantRange_22 rfl ?_
      refine sj_callVd C 26 rfl dX3_slantRange_23 cv_X3_53 rfl (ct_X3_numberOf _ h (k + 1) 0 (by omega) (by omega)) rfl rfl rfl ⟨_, _, kd_a, rfl, rfl, by decide⟩ ⟨rfl, rfl⟩ ?_
      refine sj_mmin C 29 rfl dX3_slantRange_26 cv_X3_69 rfl ?_
      refine sj_istore_n_1 C 30 rfl dX3_slantRange_29 rfl rfl ?_
      refine sj_iload_n C 31 rfl dX3_slantRange_30 rfl rfl ?_
      refine sj_aload_n C 32 rfl dX3_slantRange_31 rfl rfl ?_
      refine sj_iload_n C 33 rfl dX3_slantRange_32 rfl rfl ?_
      refine sj_iconstv C (0) 34 rfl dX3_slantRange_33 rfl ?_
      refine sj_callVd C 37 rfl dX3_slantRange_34 cv_X3_53 rfl (ct_X3_numberOf _ h (k + 1) 0 (by omega) (by omega)) rfl rfl rfl ⟨_, _, kd_a, rfl, rfl, by decide⟩ ⟨rfl, rfl⟩ ?_
      refine sj_mmax C 40 rfl dX3_slantRange_37 cv_X3_74 rfl ?_
      refine sj_istore_n_2 C 41 rfl dX3_slantRange_40 rfl rfl ?_
      refine sj_iinc_3 C 44 rfl dX3_slantRange_41 rfl rfl ?_
      refine sj_goto C 11 rfl dX3_slantRange_44 ?_
      rw [sj_n1]
      exact ih hlt
  refine sj_aload_n C 1 rfl dX3_slantRange_0 rfl rfl ?_
  refine sj_iconstv C (0) 2 rfl dX3_slantRange_1 rfl ?_
  refine sj_iconstv C (0) 3 rfl dX3_slantRange_2 rfl ?_
  refine sj_callVd C 6 rfl dX3_slantRange_3 cv_X3_53 rfl (ct_X3_numberOf _ h (0) 0 (by omega) (by omega)) rfl rfl rfl ⟨_, _, kd_a, rfl, rfl, by decide⟩ ⟨rfl, rfl⟩ ?_
  refine sj_istore_n_1 C 7 rfl dX3_slantRange_6 rfl rfl ?_
  refine sj_iload_n C 8 rfl dX3_slantRange_7 rfl rfl ?_
  refine sj_istore_n_2 C 9 rfl dX3_slantRange_8 rfl rfl ?_
  refine sj_iconstv C (1) 10 rfl dX3_slantRange_9 rfl ?_
  refine sj_istore_n_3 C 11 rfl dX3_slantRange_10 rfl rfl ?_
  exact cut_11
set_option maxRecDepth 100000 in
set_option maxHeartbeats 1000000 in
theorem ct_X3_loopHeights (l : Launch) {S : sj_St} {a rn cn rm cm n : Nat} (h : sq_sh S a rn cn rm cm n) : sj_Ctr l mX3_loopHeights [.ref a] S (sj_eq (some (.int (sj_sum (fun k => if sj_ss (sj_ia S cn) k 2 = 1 then sj_ss (sj_ia S cn) k 1 else 0) n))) S) := by
  refine sj_start ([some (.ref a), none, none]) (by decide +kernel) rfl rfl (fun X hX C hR => ?_)
  subst hX
  obtain ⟨kd_a, hn0, hn8, rf_a_1, hrn, rf_a_2, hrm⟩ := id h
  have kd_rn := hrn.1
  have kd_rm := hrm.1
  have cut_4 : sj_G X S 0 0 [some (.ref a), some (.int (sj_sum (fun k => if sj_ss (sj_ia S cn) k 2 = 1 then sj_ss (sj_ia S cn) k 1 else 0) 0)), some (.int (nI 0))] 4 [] := by
    refine sj_down (fun k => sj_G X S 0 0 [some (.ref a), some (.int (sj_sum (fun k => if sj_ss (sj_ia S cn) k 2 = 1 then sj_ss (sj_ia S cn) k 1 else 0) k)), some (.int (nI k))] 4 []) (n) (fun k hk ih => ?_)
    refine sj_iload_n C 5 rfl dX3_loopHeights_4 rfl rfl ?_
    refine sj_aload_n C 6 rfl dX3_loopHeights_5 rfl rfl ?_
    refine sj_getI C 9 rfl fd_X3_20 dX3_loopHeights_6 kd_a ?_
    rw [hn0]
    refine sj_icmp_ge C 41 12 rfl rfl dX3_loopHeights_9 (fun c_9 => ?_) (fun c_9 => ?_)
    · have hkn : k = n := by
        have h8 : ¬ k < n := fun h7 => nI_ge h7 (by omega) c_9
        omega
      subst hkn
      refine sj_iload_n C 42 rfl dX3_loopHeights_41 rfl rfl ?_
      refine sj_iret C hR rfl rfl dX3_loopHeights_42 ?_
      exact ⟨rfl, rfl⟩
    · have hlt : k < n := Nat.not_le.mp fun h8 => c_9 (nI_le h8 (by omega))
      refine sj_iload_n C 13 rfl dX3_loopHeights_12 rfl rfl ?_
      refine sj_aload_n C 14 rfl dX3_loopHeights_13 rfl rfl ?_
      refine sj_iload_n C 15 rfl dX3_loopHeights_14 rfl rfl ?_
      refine sj_iconstv C (2) 16 rfl dX3_loopHeights_15 rfl ?_
      refine sj_callVd C 19 rfl dX3_loopHeights_16 cv_X3_53 rfl (ct_X3_numberOf _ h (k) 2 (by omega) (by omega)) rfl rfl rfl ⟨_, _, kd_a, rfl, rfl, by decide⟩ ⟨rfl, rfl⟩ ?_
      refine sj_iconstv C (1) 20 rfl dX3_loopHeights_19 rfl ?_
      refine sj_icmp_ne C 32 23 rfl rfl dX3_loopHeights_20 (fun c_20 => ?_) (fun c_20 => ?_)
      · refine sj_iconstv C (0) 33 rfl dX3_loopHeights_32 rfl ?_
        refine sj_iadd C 34 rfl dX3_loopHeights_33 ?_
        refine sj_istore_n_1 C 35 rfl dX3_loopHeights_34 rfl rfl ?_
        refine sj_iinc_2 C 38 rfl dX3_loopHeights_35 rfl rfl ?_
        refine sj_goto C 4 rfl dX3_loopHeights_38 ?_
        have e9 : sj_sum (fun k => if sj_ss (sj_ia S cn) k 2 = 1 then sj_ss (sj_ia S cn) k 1 else 0) (k + 1) = sj_sum (fun k => if sj_ss (sj_ia S cn) k 2 = 1 then sj_ss (sj_ia S cn) k 1 else 0) k + 0 := congrArg (fun z => sj_sum (fun k => if sj_ss (sj_ia S cn) k 2 = 1 then sj_ss (sj_ia S cn) k 1 else 0) k + z) (if_neg c_20)
        have ih' := ih hlt
        rw [e9] at ih'
        rw [sj_n1]
        exact ih'
      · refine sj_aload_n C 24 rfl dX3_loopHeights_23 rfl rfl ?_
        refine sj_iload_n C 25 rfl dX3_loopHeights_24 rfl rfl ?_
        refine sj_iconstv C (1) 26 rfl dX3_loopHeights_25 rfl ?_
        refine sj_callVd C 29 rfl dX3_loopHeights_26 cv_X3_53 rfl (ct_X3_numberOf _ h (k) 1 (by omega) (by omega)) rfl rfl rfl ⟨_, _, kd_a, rfl, rfl, by decide⟩ ⟨rfl, rfl⟩ ?_
        refine sj_goto C 33 rfl dX3_loopHeights_29 ?_
        refine sj_iadd C 34 rfl dX3_loopHeights_33 ?_
        refine sj_istore_n_1 C 35 rfl dX3_loopHeights_34 rfl rfl ?_
        refine sj_iinc_2 C 38 rfl dX3_loopHeights_35 rfl rfl ?_
        refine sj_goto C 4 rfl dX3_loopHeights_38 ?_
        have e9 : sj_sum (fun k => if sj_ss (sj_ia S cn) k 2 = 1 then sj_ss (sj_ia S cn) k 1 else 0) (k + 1) = sj_sum (fun k => if sj_ss (sj_ia S cn) k 2 = 1 then sj_ss (sj_ia S cn) k 1 else 0) k + sj_ss (sj_ia S cn) k 1 := congrArg (fun z => sj_sum (fun k => if sj_ss (sj_ia S cn) k 2 = 1 then sj_ss (sj_ia S cn) k 1 else 0) k + z) (if_pos c_20)
        have ih' := ih hlt
        rw [e9] at ih'
        rw [sj_n1]
        exact ih'
  refine sj_iconstv C (0) 1 rfl dX3_loopHeights_0 rfl ?_
  refine sj_istore_n_1 C 2 rfl dX3_loopHeights_1 rfl rfl ?_
  refine sj_iconstv C (0) 3 rfl dX3_loopHeights_2 rfl ?_
  refine sj_istore_n_2 C 4 rfl dX3_loopHeights_3 rfl rfl ?_
  exact cut_4
def sj_ab (x : Int32) : Int32 := if 0 ≤ x then x else 0 - x
set_option maxRecDepth 100000 in
set_option maxHeartbeats 1000000 in
theorem ct_X3_pressureSteps (l : Launch) {S : sj_St} {a rn cn rm cm n : Nat} (h : sq_sh S a rn cn rm cm n) : sj_Ctr l mX3_pressureSteps [.ref a] S (sj_eq (some (.int (sj_sum (fun k => sj_ab (sj_ss (sj_ia S cn) (k + 1) 3 - sj_ss (sj_ia S cn) k 3)) (n - 1)))) S) := by
  refine sj_start ([some (.ref a), none, none]) (by decide +kernel) rfl rfl (fun X hX C hR => ?_)
  subst hX
  obtain ⟨kd_a, hn0, hn8, rf_a_1, hrn, rf_a_2, hrm⟩ := id h
  have kd_rn := hrn.1
  have kd_rm := hrm.1
  have cut_4 : sj_G X S 0 0 [some (.ref a), some (.int (sj_sum (fun k => sj_ab (sj_ss (sj_ia S cn) (k + 1) 3 - sj_ss (sj_ia S cn) k 3)) 0)), some (.int (nI (0 + 1)))] 4 [] := by
    refine sj_down (fun k => sj_G X S 0 0 [some (.ref a), some (.int (sj_sum (fun k => sj_ab (sj_ss (sj_ia S cn) (k + 1) 3 - sj_ss (sj_ia S cn) k 3)) k)), some (.int (nI (k + 1)))] 4 []) (n - 1) (fun k hk ih => ?_)
    refine sj_iload_n C 5 rfl dX3_pressureSteps_4 rfl rfl ?_
    refine sj_aload_n C 6 rfl dX3_pressureSteps_5 rfl rfl ?_
    refine sj_getI C 9 rfl fd_X3_20 dX3_pressureSteps_6 kd_a ?_
    rw [hn0]
    refine sj_icmp_ge C 39 12 rfl rfl dX3_pressureSteps_9 (fun c_9 => ?_) (fun c_9 => ?_)
    · have hkn : k = n - 1 := by
        have h8 : ¬ k < n - 1 := fun h7 => nI_ge (a := k + 1) (b := n) (by omega) (by omega) c_9
        omega
      subst hkn
      refine sj_iload_n C 40 rfl dX3_pressureSteps_39 rfl rfl ?_
      refine sj_iret C hR rfl rfl dX3_pressureSteps_40 ?_
      exact ⟨rfl, rfl⟩
    · have hlt : k < n - 1 := Nat.not_le.mp fun h8 => c_9 (nI_le (by omega) (by omega))
      refine sj_iload_n C 13 rfl dX3_pressureSteps_12 rfl rfl ?_
      refine sj_aload_n C 14 rfl dX3_pressureSteps_13 rfl rfl ?_
      refine sj_iload_n C 15 rfl dX3_pressureSteps_14 rfl rfl ?_
      refine sj_iconstv C (3) 16 rfl dX3_pressureSteps_15 rfl ?_
      refine sj_callVd C 19 rfl dX3_pressureSteps_16 cv_X3_53 rfl (ct_X3_numberOf _ h (k + 1) 3 (by omega) (by omega)) rfl rfl rfl ⟨_, _, kd_a, rfl, rfl, by decide⟩ ⟨rfl, rfl⟩ ?_
      refine sj_aload_n C 20 rfl dX3_pressureSteps_19 rfl rfl ?_
      refine sj_iload_n C 21 rfl dX3_pressureSteps_20 rfl rfl ?_
      refine sj_iconstv C (1) 22 rfl dX3_pressureSteps_21 rfl ?_
      refine sj_isub C 23 rfl dX3_pressureSteps_22 ?_
      rw [show nI (k + 1) - 1 = nI k from nI_pred k]
      refine sj_iconstv C (3) 24 rfl dX3_pressureSteps_23 rfl ?_
      refine sj_callVd C 27 rfl dX3_pressureSteps_24 cv_X3_53 rfl (ct_X3_numberOf _ h (k) 3 (by omega) (by omega)) rfl rfl rfl ⟨_, _, kd_a, rfl, rfl, by decide⟩ ⟨rfl, rfl⟩ ?_
      refine sj_isub C 28 rfl dX3_pressureSteps_27 ?_
      refine sj_mabs C 31 rfl dX3_pressureSteps_28 cv_X3_77 rfl ?_
      refine sj_iadd C 32 rfl dX3_pressureSteps_31 ?_
      refine sj_istore_n_1 C 33 rfl dX3_pressureSteps_32 rfl rfl ?_
      refine sj_iinc_2 C 36 rfl dX3_pressureSteps_33 rfl rfl ?_
      refine sj_goto C 4 rfl dX3_pressureSteps_36 ?_
      rw [sj_n1]
      exact ih hlt
  refine sj_iconstv C (0) 1 rfl dX3_pressureSteps_0 rfl ?_
  refine sj_istore_n_1 C 2 rfl dX3_pressureSteps_1 rfl rfl ?_
  refine sj_iconstv C (1) 3 rfl dX3_pressureSteps_2 rfl ?_
  refine sj_istore_n_2 C 4 rfl dX3_pressureSteps_3 rfl rfl ?_
  exact cut_4
/-- the marks of n strokes -/
def sj_mr (f : Nat → Int32) (n : Nat) : Nat → Int32
  | 0 => sj_mean (sj_tt f n 0) (nI n)
  | 1 => sj_mx (fun k => sj_ss f k 0) (n - 1) - sj_mn (fun k => sj_ss f k 0) (n - 1)
  | 2 => sj_mean (sj_mean (sj_sum (fun k => if sj_ss f k 2 = 1 then sj_ss f k 1 else 0) n) (sj_tt f n 2) * 10) (sj_mean (sj_tt f n 1) (nI n))
  | 3 => sj_mean (sj_tt f n 2 * 100) (nI n)
  | 4 => sj_mean (sj_tt f n 3 * 10) (nI n)
  | 5 => sj_mean (sj_sum (fun k => sj_ab (sj_ss f (k + 1) 3 - sj_ss f k 3)) (n - 1) * 10) (nI n - 1)
  | _ => 0
theorem sq_sh_cm {S : sj_St} {a rn cn rm cm n : Nat} (h : sq_sh S a rn cn rm cm n) (g : Nat → Int32) : sq_sh (sj_sIa S cm g) a rn cn rm cm n := h
def sj_mr6 (f : Nat → Int32) (n : Nat) (g : Nat → Int32) : Nat → Nat → Int32
  | 0 => g
  | k + 1 => upd (sj_mr6 f n g k) k (sj_mr f n k)
theorem sj_mr6_at (f : Nat → Int32) (n : Nat) (g : Nat → Int32) {j : Nat} : ∀ k, j < k → sj_mr6 f n g k j = sj_mr f n j
  | k + 1, h => by
    show upd (sj_mr6 f n g k) k (sj_mr f n k) j = _
    by_cases h1 : j = k
    · rw [h1]
      exact if_pos rfl
    · exact (if_neg h1).trans (sj_mr6_at f n g k (by omega))
set_option maxRecDepth 100000 in
set_option maxHeartbeats 1000000 in
theorem ct_X3_reckonMarks (l : Launch) {S : sj_St} {a rn cn rm cm n : Nat} (h : sq_sh S a rn cn rm cm n) (hne : cn ≠ cm) : sj_Ctr l mX3_reckonMarks [.ref a] S (sj_eq none (sj_sIa S cm (sj_mr6 (sj_ia S cn) n (sj_ia S cm) 6))) := by
  refine sj_start ([some (.ref a), none, none]) (by decide +kernel) rfl rfl (fun X hX C hR => ?_)
  subst hX
  obtain ⟨kd_a, hn0, hn8, rf_a_1, hrn, rf_a_2, hrm⟩ := id h
  have kd_rn := hrn.1
  have kd_rm := hrm.1
  have hh : ∀ k, sq_sh (sj_sIa S cm (sj_mr6 (sj_ia S cn) n (sj_ia S cm) k)) a rn cn rm cm n := fun k => h
  have ef : ∀ k, sj_ia (sj_sIa S cm (sj_mr6 (sj_ia S cn) n (sj_ia S cm) k)) cn = sj_ia S cn := fun k => sj_ia_sIa_ne S _ hne
  have en : ∀ k, sj_fi (sj_sIa S cm (sj_mr6 (sj_ia S cn) n (sj_ia S cm) k)) a 0 = nI n := fun k => hn0
  have hrm9 : ∀ k, sj_rw (sj_sIa S cm (sj_mr6 (sj_ia S cn) n (sj_ia S cm) k)) rm cm 6 := fun k => hrm
  refine sj_aload_n C 1 rfl dX3_reckonMarks_0 rfl rfl ?_
  refine sj_iconstv C (2) 2 rfl dX3_reckonMarks_1 rfl ?_
  refine sj_callVd C 5 rfl dX3_reckonMarks_2 cv_X3_31 rfl (ct_X3_total _ h 2 (by omega)) rfl rfl rfl ⟨_, _, kd_a, rfl, rfl, by decide⟩ ⟨rfl, rfl⟩ ?_
  refine sj_istore_n_1 C 6 rfl dX3_reckonMarks_5 rfl rfl ?_
  refine sj_aload_n C 7 rfl dX3_reckonMarks_6 rfl rfl ?_
  refine sj_iconstv C (3) 8 rfl dX3_reckonMarks_7 rfl ?_
  refine sj_callVd C 11 rfl dX3_reckonMarks_8 cv_X3_31 rfl (ct_X3_total _ h 3 (by omega)) rfl rfl rfl ⟨_, _, kd_a, rfl, rfl, by decide⟩ ⟨rfl, rfl⟩ ?_
  refine sj_istore_n_2 C 12 rfl dX3_reckonMarks_11 rfl rfl ?_
  rw [show S = (sj_sIa S cm (sj_mr6 (sj_ia S cn) n (sj_ia S cm) 0)) from (sj_sIa_id S cm).symm]
  refine sj_aload_n C 13 rfl dX3_reckonMarks_12 rfl rfl ?_
  refine sj_getr C 16 rfl fd_X3_14 dX3_reckonMarks_13 kd_a rf_a_2 ?_
  refine sj_iconstv C (0) 17 rfl dX3_reckonMarks_16 rfl ?_
  refine sj_aload_n C 18 rfl dX3_reckonMarks_17 rfl rfl ?_
  refine sj_iconstv C (0) 19 rfl dX3_reckonMarks_18 rfl ?_
  refine sj_callVd C 22 rfl dX3_reckonMarks_19 cv_X3_31 rfl (ct_X3_total _ (hh 0) 0 (by omega)) rfl rfl rfl ⟨_, _, kd_a, rfl, rfl, by decide⟩ ⟨rfl, rfl⟩ ?_
  rw [ef 0]
  refine sj_aload_n C 23 rfl dX3_reckonMarks_22 rfl rfl ?_
  refine sj_getI C 26 rfl fd_X3_20 dX3_reckonMarks_23 kd_a ?_
  rw [en 0]
  refine sj_callSd C 29 rfl dX3_reckonMarks_26 cv_X3_35 rfl (ct_X3_mean _ _ _ _) rfl rfl rfl ⟨rfl, rfl⟩ ?_
  refine sj_callVv C 32 rfl dX3_reckonMarks_29 cv_X3_39 rfl (ct_X2_put _ (hrm9 0) (nI 0) _) rfl rfl rfl ⟨_, _, kd_rm, rfl, rfl, by decide⟩ ⟨rfl, rfl⟩ ?_
  rw [sj_put_nI (j := 0) (by omega) (by omega), sj_wIa_sIa, show upd (sj_mr6 (sj_ia S cn) n (sj_ia S cm) 0) 0 (sj_mean (sj_tt (sj_ia S cn) n 0) (nI n)) = sj_mr6 (sj_ia S cn) n (sj_ia S cm) 1 from rfl]
  refine sj_aload_n C 33 rfl dX3_reckonMarks_32 rfl rfl ?_
  refine sj_getr C 36 rfl fd_X3_14 dX3_reckonMarks_33 kd_a rf_a_2 ?_
  refine sj_iconstv C (1) 37 rfl dX3_reckonMarks_36 rfl ?_
  refine sj_aload_n C 38 rfl dX3_reckonMarks_37 rfl rfl ?_
  refine sj_callVd C 41 rfl dX3_reckonMarks_38 cv_X3_43 rfl (ct_X3_slantRange _ (hh 1)) rfl rfl rfl ⟨_, _, kd_a, rfl, rfl, by decide⟩ ⟨rfl, rfl⟩ ?_
  rw [ef 1]
  refine sj_callVv C 44 rfl dX3_reckonMarks_41 cv_X3_39 rfl (ct_X2_put _ (hrm9 1) (nI 1) _) rfl rfl rfl ⟨_, _, kd_rm, rfl, rfl, by decide⟩ ⟨rfl, rfl⟩ ?_
  rw [sj_put_nI (j := 1) (by omega) (by omega), sj_wIa_sIa, show upd (sj_mr6 (sj_ia S cn) n (sj_ia S cm) 1) 1 (sj_mx (fun k => sj_ss (sj_ia S cn) k 0) (n - 1) - sj_mn (fun k => sj_ss (sj_ia S cn) k 0) (n - 1)) = sj_mr6 (sj_ia S cn) n (sj_ia S cm) 2 from rfl]
  refine sj_aload_n C 45 rfl dX3_reckonMarks_44 rfl rfl ?_
  refine sj_getr C 48 rfl fd_X3_14 dX3_reckonMarks_45 kd_a rf_a_2 ?_
  refine sj_iconstv C (2) 49 rfl dX3_reckonMarks_48 rfl ?_
  refine sj_aload_n C 50 rfl dX3_reckonMarks_49 rfl rfl ?_
  refine sj_callVd C 53 rfl dX3_reckonMarks_50 cv_X3_47 rfl (ct_X3_loopHeights _ (hh 2)) rfl rfl rfl ⟨_, _, kd_a, rfl, rfl, by decide⟩ ⟨rfl, rfl⟩ ?_
  rw [ef 2]
  refine sj_iload_n C 54 rfl dX3_reckonMarks_53 rfl rfl ?_
  refine sj_callSd C 57 rfl dX3_reckonMarks_54 cv_X3_35 rfl (ct_X3_mean _ _ _ _) rfl rfl rfl ⟨rfl, rfl⟩ ?_
  refine sj_bipush C (10) 59 rfl dX3_reckonMarks_57 (by decide) ?_
  refine sj_imul C 60 rfl dX3_reckonMarks_59 ?_
  refine sj_aload_n C 61 rfl dX3_reckonMarks_60 rfl rfl ?_
  refine sj_iconstv C (1) 62 rfl dX3_reckonMarks_61 rfl ?_
  refine sj_callVd C 65 rfl dX3_reckonMarks_62 cv_X3_31 rfl (ct_X3_total _ (hh 2) 1 (by omega)) rfl rfl rfl ⟨_, _, kd_a, rfl, rfl, by decide⟩ ⟨rfl, rfl⟩ ?_
  rw [ef 2]
  refine sj_aload_n C 66 rfl dX3_reckonMarks_65 rfl rfl ?_
  refine sj_getI C 69 rfl fd_X3_20 dX3_reckonMarks_66 kd_a ?_
  rw [en 2]
  refine sj_callSd C 72 rfl dX3_reckonMarks_69 cv_X3_35 rfl (ct_X3_mean _ _ _ _) rfl rfl rfl ⟨rfl, rfl⟩ ?_
  refine sj_callSd C 75 rfl dX3_reckonMarks_72 cv_X3_35 rfl (ct_X3_mean _ _ _ _) rfl rfl rfl ⟨rfl, rfl⟩ ?_
  refine sj_callVv C 78 rfl dX3_reckonMarks_75 cv_X3_39 rfl (ct_X2_put _ (hrm9 2) (nI 2) _) rfl rfl rfl ⟨_, _, kd_rm, rfl, rfl, by decide⟩ ⟨rfl, rfl⟩ ?_
  rw [sj_put_nI (j := 2) (by omega) (by omega), sj_wIa_sIa, show upd (sj_mr6 (sj_ia S cn) n (sj_ia S cm) 2) 2 (sj_mean (sj_mean (sj_sum (fun k => if sj_ss (sj_ia S cn) k 2 = 1 then sj_ss (sj_ia S cn) k 1 else 0) n) (sj_tt (sj_ia S cn) n 2) * 10) (sj_mean (sj_tt (sj_ia S cn) n 1) (nI n))) = sj_mr6 (sj_ia S cn) n (sj_ia S cm) 3 from rfl]
  refine sj_aload_n C 79 rfl dX3_reckonMarks_78 rfl rfl ?_
  refine sj_getr C 82 rfl fd_X3_14 dX3_reckonMarks_79 kd_a rf_a_2 ?_
  refine sj_iconstv C (3) 83 rfl dX3_reckonMarks_82 rfl ?_
  refine sj_iload_n C 84 rfl dX3_reckonMarks_83 rfl rfl ?_
  refine sj_bipush C (100) 86 rfl dX3_reckonMarks_84 (by decide) ?_
  refine sj_imul C 87 rfl dX3_reckonMarks_86 ?_
  refine sj_aload_n C 88 rfl dX3_reckonMarks_87 rfl rfl ?_
  refine sj_getI C 91 rfl fd_X3_20 dX3_reckonMarks_88 kd_a ?_
  rw [en 3]
  refine sj_callSd C 94 rfl dX3_reckonMarks_91 cv_X3_35 rfl (ct_X3_mean _ _ _ _) rfl rfl rfl ⟨rfl, rfl⟩ ?_
  refine sj_callVv C 97 rfl dX3_reckonMarks_94 cv_X3_39 rfl (ct_X2_put _ (hrm9 3) (nI 3) _) rfl rfl rfl ⟨_, _, kd_rm, rfl, rfl, by decide⟩ ⟨rfl, rfl⟩ ?_
  rw [sj_put_nI (j := 3) (by omega) (by omega), sj_wIa_sIa, show upd (sj_mr6 (sj_ia S cn) n (sj_ia S cm) 3) 3 (sj_mean (sj_tt (sj_ia S cn) n 2 * 100) (nI n)) = sj_mr6 (sj_ia S cn) n (sj_ia S cm) 4 from rfl]
  refine sj_aload_n C 98 rfl dX3_reckonMarks_97 rfl rfl ?_
  refine sj_getr C 101 rfl fd_X3_14 dX3_reckonMarks_98 kd_a rf_a_2 ?_
  refine sj_iconstv C (4) 102 rfl dX3_reckonMarks_101 rfl ?_
  refine sj_iload_n C 103 rfl dX3_reckonMarks_102 rfl rfl ?_
  refine sj_bipush C (10) 105 rfl dX3_reckonMarks_103 (by decide) ?_
  refine sj_imul C 106 rfl dX3_reckonMarks_105 ?_
  refine sj_aload_n C 107 rfl dX3_reckonMarks_106 rfl rfl ?_
  refine sj_getI C 110 rfl fd_X3_20 dX3_reckonMarks_107 kd_a ?_
  rw [en 4]
  refine sj_callSd C 113 rfl dX3_reckonMarks_110 cv_X3_35 rfl (ct_X3_mean _ _ _ _) rfl rfl rfl ⟨rfl, rfl⟩ ?_
  refine sj_callVv C 116 rfl dX3_reckonMarks_113 cv_X3_39 rfl (ct_X2_put _ (hrm9 4) (nI 4) _) rfl rfl rfl ⟨_, _, kd_rm, rfl, rfl, by decide⟩ ⟨rfl, rfl⟩ ?_
  rw [sj_put_nI (j := 4) (by omega) (by omega), sj_wIa_sIa, show upd (sj_mr6 (sj_ia S cn) n (sj_ia S cm) 4) 4 (sj_mean (sj_tt (sj_ia S cn) n 3 * 10) (nI n)) = sj_mr6 (sj_ia S cn) n (sj_ia S cm) 5 from rfl]
  refine sj_aload_n C 117 rfl dX3_reckonMarks_116 rfl rfl ?_
  refine sj_getr C 120 rfl fd_X3_14 dX3_reckonMarks_117 kd_a rf_a_2 ?_
  refine sj_iconstv C (5) 121 rfl dX3_reckonMarks_120 rfl ?_
  refine sj_aload_n C 122 rfl dX3_reckonMarks_121 rfl rfl ?_
  refine sj_callVd C 125 rfl dX3_reckonMarks_122 cv_X3_50 rfl (ct_X3_pressureSteps _ (hh 5)) rfl rfl rfl ⟨_, _, kd_a, rfl, rfl, by decide⟩ ⟨rfl, rfl⟩ ?_
  rw [ef 5]
  refine sj_bipush C (10) 127 rfl dX3_reckonMarks_125 (by decide) ?_
  refine sj_imul C 128 rfl dX3_reckonMarks_127 ?_
  refine sj_aload_n C 129 rfl dX3_reckonMarks_128 rfl rfl ?_
  refine sj_getI C 132 rfl fd_X3_20 dX3_reckonMarks_129 kd_a ?_
  refine sj_iconstv C (1) 133 rfl dX3_reckonMarks_132 rfl ?_
  refine sj_isub C 134 rfl dX3_reckonMarks_133 ?_
  rw [en 5]
  refine sj_callSd C 137 rfl dX3_reckonMarks_134 cv_X3_35 rfl (ct_X3_mean _ _ _ _) rfl rfl rfl ⟨rfl, rfl⟩ ?_
  refine sj_callVv C 140 rfl dX3_reckonMarks_137 cv_X3_39 rfl (ct_X2_put _ (hrm9 5) (nI 5) _) rfl rfl rfl ⟨_, _, kd_rm, rfl, rfl, by decide⟩ ⟨rfl, rfl⟩ ?_
  rw [sj_put_nI (j := 5) (by omega) (by omega), sj_wIa_sIa, show upd (sj_mr6 (sj_ia S cn) n (sj_ia S cm) 5) 5 (sj_mean (sj_sum (fun k => sj_ab (sj_ss (sj_ia S cn) (k + 1) 3 - sj_ss (sj_ia S cn) k 3)) (n - 1) * 10) (nI n - 1)) = sj_mr6 (sj_ia S cn) n (sj_ia S cm) 6 from rfl]
  refine sj_vret C hR rfl rfl dX3_reckonMarks_140 ?_
  exact ⟨rfl, rfl⟩
theorem sj_dm5 {i e : Nat} (he : e < 5) : (5 * i + e) / 5 = i ∧ (5 * i + e) % 5 = e := ⟨by omega, by omega⟩
def sj_tn5 (f : Nat → Int32) (n : Nat) (j : Nat) : Int32 := if nI n ≤ nI (j / 5) then -1 else sj_ss f (j / 5) (j % 5) + (if j % 5 = 0 then 100 else 0)
theorem sj_tn5_e {f : Nat → Int32} {n k e : Nat} (he : e < 5) : sj_tn5 f n (5 * k + e) = if nI n ≤ nI k then -1 else sj_ss f k e + (if e = 0 then 100 else 0) := by
  unfold sj_tn5
  rw [(sj_dm5 he).1, (sj_dm5 he).2]
