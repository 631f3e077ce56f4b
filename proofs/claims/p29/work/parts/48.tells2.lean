/-! THE CLASS: what its table tells of all sheets -/
set_option maxRecDepth 100000 in
set_option maxHeartbeats 150000 in
theorem ct_X4_tremblingSheets (l : Launch) {S : sj_St} {F : Nat → Prop} {D : Nat → Nat} {m : Nat → Int32} (h : sq_T S F D m) (hI : sj_inv m) : sj_Ctr l mX4_tremblingSheets [.ref (D 0)] S (sj_eq (some (.int (sj_trs m))) S) := by
  refine sj_start ([some (.ref (D 0)), none, none]) (by decide +kernel) rfl rfl (fun X hX C hR => ?_)
  subst hX
  obtain ⟨⟨kd_t, rf_t_0, ⟨rf_t_1, kd_sh, il_sh⟩, ⟨rf_t_2, hag⟩, ⟨rf_t_4, hol⟩, ⟨rf_t_5, hse⟩, hinj⟩, ⟨h3, h6, h7⟩, hA, hE, hRo, hSh⟩ := id h
  have kd_ag := hag.1
  have kd_o := hol.1
  have kd_se := hse.1
  obtain ⟨h9, hn8⟩ := id hI.1
  have hv := sj_inv_oav hI
  have cut_4 : sj_G X S 0 0 [some (.ref (D 0)), some (.int (sj_sum (fun k => sj_bi (sj_trm m k)) (0))), some (.int (nI (0)))] 4 [] := by
    refine sj_down (fun k => sj_G X S 0 0 [some (.ref (D 0)), some (.int (sj_sum (fun k => sj_bi (sj_trm m k)) (k))), some (.int (nI (k)))] 4 []) (sj_tn (m 9)) (fun k hk ih => ?_)
    refine sj_iload_n C 5 rfl dX4_tremblingSheets_4 rfl rfl ?_
    refine sj_aload_n C 6 rfl dX4_tremblingSheets_5 rfl rfl ?_
    refine sj_getI C 9 rfl fd_X4_65 dX4_tremblingSheets_6 kd_t ?_
    rw [h3]
    refine sj_icmp_ge C 34 12 rfl rfl dX4_tremblingSheets_9 (fun c_9 => ?_) (fun c_9 => ?_)
    · have hkn : k = (sj_tn (m 9)) := by
        have h8 : ¬ k < (sj_tn (m 9)) := fun h7 => nI_ge h7 (by omega) (by rw [← h9]; exact c_9)
        omega
      rw [hkn]
      refine sj_iload_n C 35 rfl dX4_tremblingSheets_34 rfl rfl ?_
      refine sj_iret C hR rfl rfl dX4_tremblingSheets_35 ?_
      exact ⟨rfl, rfl⟩
    · have hlt : k < (sj_tn (m 9)) := Nat.not_le.mp fun h8 => c_9 (by rw [h9]; exact nI_le h8 (by omega))
      refine sj_iload_n C 13 rfl dX4_tremblingSheets_12 rfl rfl ?_
      refine sj_aload_n C 14 rfl dX4_tremblingSheets_13 rfl rfl ?_
      refine sj_iload_n C 15 rfl dX4_tremblingSheets_14 rfl rfl ?_
      refine sj_callVd C 18 rfl dX4_tremblingSheets_15 cv_X4_101 rfl (ct_X4_trembles _ h hI hlt) rfl rfl rfl ⟨_, _, kd_t, rfl, rfl, by decide⟩ ⟨rfl, rfl⟩ ?_
      refine sj_if_eq C 25 21 rfl rfl dX4_tremblingSheets_18 (fun c_18 => ?_) (fun c_18 => ?_)
      · refine sj_iconstv C (0) 26 rfl dX4_tremblingSheets_25 rfl ?_
        refine sj_iadd C 27 rfl dX4_tremblingSheets_26 ?_
        refine sj_istore_n_1 C 28 rfl dX4_tremblingSheets_27 rfl rfl ?_
        refine sj_iinc_2 C 31 rfl dX4_tremblingSheets_28 rfl rfl ?_
        refine sj_goto C 4 rfl dX4_tremblingSheets_31 ?_
        have e9 : sj_sum (fun k => sj_bi (sj_trm m k)) (k + 1) = sj_sum (fun k => sj_bi (sj_trm m k)) k + 0 := congrArg (fun z => sj_sum (fun k => sj_bi (sj_trm m k)) k + z) (by
          show sj_bi (sj_trm m k) = 0
          rw [sj_bi0.mp c_18]; rfl)
        have ih' := ih hlt
        rw [e9] at ih'
        rw [sj_n1]
        exact ih'
      · refine sj_iconstv C (1) 22 rfl dX4_tremblingSheets_21 rfl ?_
        refine sj_goto C 26 rfl dX4_tremblingSheets_22 ?_
        refine sj_iadd C 27 rfl dX4_tremblingSheets_26 ?_
        refine sj_istore_n_1 C 28 rfl dX4_tremblingSheets_27 rfl rfl ?_
        refine sj_iinc_2 C 31 rfl dX4_tremblingSheets_28 rfl rfl ?_
        refine sj_goto C 4 rfl dX4_tremblingSheets_31 ?_
        have e9 : sj_sum (fun k => sj_bi (sj_trm m k)) (k + 1) = sj_sum (fun k => sj_bi (sj_trm m k)) k + 1 := congrArg (fun z => sj_sum (fun k => sj_bi (sj_trm m k)) k + z) (by
          show sj_bi (sj_trm m k) = 1
          rw [sj_bin.mp c_18]; rfl)
        have ih' := ih hlt
        rw [e9] at ih'
        rw [sj_n1]
        exact ih'
  refine sj_iconstv C (0) 1 rfl dX4_tremblingSheets_0 rfl ?_
  refine sj_istore_n_1 C 2 rfl dX4_tremblingSheets_1 rfl rfl ?_
  refine sj_iconstv C (0) 3 rfl dX4_tremblingSheets_2 rfl ?_
  refine sj_istore_n_2 C 4 rfl dX4_tremblingSheets_3 rfl rfl ?_
  exact cut_4
set_option maxRecDepth 100000 in
set_option maxHeartbeats 150000 in
theorem ct_X4_hands (l : Launch) {S : sj_St} {F : Nat → Prop} {D : Nat → Nat} {m : Nat → Int32} (h : sq_T S F D m) (hI : sj_inv m) : sj_Ctr l mX4_hands [.ref (D 0)] S (sj_eq (some (.int (sj_hds m))) S) := by
  refine sj_start ([some (.ref (D 0)), none, none]) (by decide +kernel) rfl rfl (fun X hX C hR => ?_)
  subst hX
  obtain ⟨⟨kd_t, rf_t_0, ⟨rf_t_1, kd_sh, il_sh⟩, ⟨rf_t_2, hag⟩, ⟨rf_t_4, hol⟩, ⟨rf_t_5, hse⟩, hinj⟩, ⟨h3, h6, h7⟩, hA, hE, hRo, hSh⟩ := id h
  have kd_ag := hag.1
  have kd_o := hol.1
  have kd_se := hse.1
  obtain ⟨h9, hn8⟩ := id hI.1
  have hv := sj_inv_oav hI
  have cut_4 : sj_G X S 0 0 [some (.ref (D 0)), some (.int (sj_sum (fun k => sj_bi (decide (sj_hH m (-1) k = nI k))) (0))), some (.int (nI (0)))] 4 [] := by
    refine sj_down (fun k => sj_G X S 0 0 [some (.ref (D 0)), some (.int (sj_sum (fun k => sj_bi (decide (sj_hH m (-1) k = nI k))) (k))), some (.int (nI (k)))] 4 []) (sj_tn (m 9)) (fun k hk ih => ?_)
    refine sj_iload_n C 5 rfl dX4_hands_4 rfl rfl ?_
    refine sj_aload_n C 6 rfl dX4_hands_5 rfl rfl ?_
    refine sj_getI C 9 rfl fd_X4_65 dX4_hands_6 kd_t ?_
    rw [h3]
    refine sj_icmp_ge C 38 12 rfl rfl dX4_hands_9 (fun c_9 => ?_) (fun c_9 => ?_)
    · have hkn : k = (sj_tn (m 9)) := by
        have h8 : ¬ k < (sj_tn (m 9)) := fun h7 => nI_ge h7 (by omega) (by rw [← h9]; exact c_9)
        omega
      rw [hkn]
      refine sj_iload_n C 39 rfl dX4_hands_38 rfl rfl ?_
      refine sj_iret C hR rfl rfl dX4_hands_39 ?_
      exact ⟨rfl, rfl⟩
    · have hlt : k < (sj_tn (m 9)) := Nat.not_le.mp fun h8 => c_9 (by rw [h9]; exact nI_le h8 (by omega))
      refine sj_iload_n C 13 rfl dX4_hands_12 rfl rfl ?_
      refine sj_aload_n C 14 rfl dX4_hands_13 rfl rfl ?_
      refine sj_getr C 17 rfl fd_X4_36 dX4_hands_14 kd_t rf_t_4 ?_
      refine sj_iload_n C 18 rfl dX4_hands_17 rfl rfl ?_
      refine sj_callVd C 21 rfl dX4_hands_18 cv_X4_105 rfl (sq_c_handOf _ hol hv hRo (i := k) (by omega)) rfl rfl rfl ⟨_, _, kd_o, rfl, rfl, by decide⟩ ⟨rfl, rfl⟩ ?_
      refine sj_iload_n C 22 rfl dX4_hands_21 rfl rfl ?_
      refine sj_icmp_ne C 29 25 rfl rfl dX4_hands_22 (fun c_22 => ?_) (fun c_22 => ?_)
      · refine sj_iconstv C (0) 30 rfl dX4_hands_29 rfl ?_
        refine sj_iadd C 31 rfl dX4_hands_30 ?_
        refine sj_istore_n_1 C 32 rfl dX4_hands_31 rfl rfl ?_
        refine sj_iinc_2 C 35 rfl dX4_hands_32 rfl rfl ?_
        refine sj_goto C 4 rfl dX4_hands_35 ?_
        have e9 : sj_sum (fun k => sj_bi (decide (sj_hH m (-1) k = nI k))) (k + 1) = sj_sum (fun k => sj_bi (decide (sj_hH m (-1) k = nI k))) k + 0 := congrArg (fun z => sj_sum (fun k => sj_bi (decide (sj_hH m (-1) k = nI k))) k + z) (by
          show sj_bi (decide (sj_hH m (-1) k = nI k)) = 0
          rw [decide_eq_false c_22]; rfl)
        have ih' := ih hlt
        rw [e9] at ih'
        rw [sj_n1]
        exact ih'
      · refine sj_iconstv C (1) 26 rfl dX4_hands_25 rfl ?_
        refine sj_goto C 30 rfl dX4_hands_26 ?_
        refine sj_iadd C 31 rfl dX4_hands_30 ?_
        refine sj_istore_n_1 C 32 rfl dX4_hands_31 rfl rfl ?_
        refine sj_iinc_2 C 35 rfl dX4_hands_32 rfl rfl ?_
        refine sj_goto C 4 rfl dX4_hands_35 ?_
        have e9 : sj_sum (fun k => sj_bi (decide (sj_hH m (-1) k = nI k))) (k + 1) = sj_sum (fun k => sj_bi (decide (sj_hH m (-1) k = nI k))) k + 1 := congrArg (fun z => sj_sum (fun k => sj_bi (decide (sj_hH m (-1) k = nI k))) k + z) (by
          show sj_bi (decide (sj_hH m (-1) k = nI k)) = 1
          rw [decide_eq_true c_22]; rfl)
        have ih' := ih hlt
        rw [e9] at ih'
        rw [sj_n1]
        exact ih'
  refine sj_iconstv C (0) 1 rfl dX4_hands_0 rfl ?_
  refine sj_istore_n_1 C 2 rfl dX4_hands_1 rfl rfl ?_
  refine sj_iconstv C (0) 3 rfl dX4_hands_2 rfl ?_
  refine sj_istore_n_2 C 4 rfl dX4_hands_3 rfl rfl ?_
  exact cut_4
theorem sq_mo_ge (m : Nat → Int32) (i : Nat) (o : Option Nat) : -1 ≤ sq_mo m i o := by
  cases o with
  | none => exact Int32.le_refl _
  | some j =>
    obtain ⟨x, hx, ex⟩ := sj_lik_6 m i j
    show -1 ≤ sj_lik m i j
    rw [ex]
    exact Int32.le_trans (by decide) (nI_pos' (by omega))
set_option maxRecDepth 100000 in
set_option maxHeartbeats 150000 in
theorem ct_X4_mostAlike (l : Launch) {S : sj_St} {F : Nat → Prop} {D : Nat → Nat} {m : Nat → Int32} (h : sq_T S F D m) (hI : sj_inv m) {i : Nat} (hi : i < (sj_tn (m 9))) : sj_Ctr l mX4_mostAlike [.ref (D 0), .int (nI i)] S (sj_eq (some (.int (sj_on (sj_mal m i (sj_tn (m 9)))))) S) := by
  refine sj_start ([some (.ref (D 0)), some (.int (nI i)), none, none, none, none]) (by decide +kernel) rfl rfl (fun X hX C hR => ?_)
  subst hX
  obtain ⟨⟨kd_t, rf_t_0, ⟨rf_t_1, kd_sh, il_sh⟩, ⟨rf_t_2, hag⟩, ⟨rf_t_4, hol⟩, ⟨rf_t_5, hse⟩, hinj⟩, ⟨h3, h6, h7⟩, hA, hE, hRo, hSh⟩ := id h
  have kd_ag := hag.1
  have kd_o := hol.1
  have kd_se := hse.1
  obtain ⟨h9, hn8⟩ := id hI.1
  have hv := sj_inv_oav hI
  have cut_7 : ∀ (o5 : Option Value), sj_G X S 0 0 [some (.ref (D 0)), some (.int (nI i)), some (.int (sj_on (sj_mal m i (0)))), some (.int (sq_mo m i (sj_mal m i (0)))), some (.int (nI (0))), o5] 7 [] := by
    refine sj_down (fun k => ∀ (o5 : Option Value), sj_G X S 0 0 [some (.ref (D 0)), some (.int (nI i)), some (.int (sj_on (sj_mal m i (k)))), some (.int (sq_mo m i (sj_mal m i (k)))), some (.int (nI (k))), o5] 7 []) (sj_tn (m 9)) (fun k hk ih => ?_)
    intro o5
    refine sj_iload C 9 rfl dX4_mostAlike_7 rfl ?_
    refine sj_aload_n C 10 rfl dX4_mostAlike_9 rfl rfl ?_
    refine sj_getI C 13 rfl fd_X4_65 dX4_mostAlike_10 kd_t ?_
    rw [h3]
    refine sj_icmp_ge C 54 16 rfl rfl dX4_mostAlike_13 (fun c_13 => ?_) (fun c_13 => ?_)
    · have hkn : k = (sj_tn (m 9)) := by
        have h8 : ¬ k < (sj_tn (m 9)) := fun h7 => nI_ge h7 (by omega) (by rw [← h9]; exact c_13)
        omega
      rw [hkn]
      refine sj_iload_n C 55 rfl dX4_mostAlike_54 rfl rfl ?_
      refine sj_iret C hR rfl rfl dX4_mostAlike_55 ?_
      exact ⟨rfl, rfl⟩
    · have hlt : k < (sj_tn (m 9)) := Nat.not_le.mp fun h8 => c_13 (by rw [h9]; exact nI_le h8 (by omega))
      refine sj_iload C 18 rfl dX4_mostAlike_16 rfl ?_
      refine sj_iload_n C 19 rfl dX4_mostAlike_18 rfl rfl ?_
      refine sj_icmp_ne C 26 22 rfl rfl dX4_mostAlike_19 (fun c_19 => ?_) (fun c_19 => ?_)
      · refine sj_aload_n C 27 rfl dX4_mostAlike_26 rfl rfl ?_
        refine sj_iload_n C 28 rfl dX4_mostAlike_27 rfl rfl ?_
        refine sj_iload C 30 rfl dX4_mostAlike_28 rfl ?_
        refine sj_iconstv C (0) 31 rfl dX4_mostAlike_30 rfl ?_
        refine sj_callVd C 34 rfl dX4_mostAlike_31 cv_X4_134 rfl (sq_lik0 _ h hI hi hlt) rfl rfl rfl ⟨_, _, kd_t, rfl, rfl, by decide⟩ ⟨rfl, rfl⟩ ?_
        refine sj_istore_5 C 36 rfl dX4_mostAlike_34 rfl rfl ?_
        refine sj_iload C 38 rfl dX4_mostAlike_36 rfl ?_
        refine sj_iload_n C 39 rfl dX4_mostAlike_38 rfl rfl ?_
        refine sj_icmp_le C 48 42 rfl rfl dX4_mostAlike_39 (fun c_39 => ?_) (fun c_39 => ?_)
        · refine sj_iinc_4 C 51 rfl dX4_mostAlike_48 rfl rfl ?_
          refine sj_goto C 7 rfl dX4_mostAlike_51 ?_
          have hne : ¬ k = i := fun e => c_19 (by rw [e])
          have e9 := (sq_mal_s (m := m) hne).2 (sj_nlt.mpr c_39)
          have ih' := ih hlt
          rw [e9] at ih'
          rw [sj_n1]
          exact ih' _
        · refine sj_iload C 44 rfl dX4_mostAlike_42 rfl ?_
          refine sj_istore_n_3 C 45 rfl dX4_mostAlike_44 rfl rfl ?_
          refine sj_iload C 47 rfl dX4_mostAlike_45 rfl ?_
          refine sj_istore_n_2 C 48 rfl dX4_mostAlike_47 rfl rfl ?_
          refine sj_iinc_4 C 51 rfl dX4_mostAlike_48 rfl rfl ?_
          refine sj_goto C 7 rfl dX4_mostAlike_51 ?_
          have hne : ¬ k = i := fun e => c_19 (by rw [e])
          have e9 := (sq_mal_s (m := m) hne).1 (sj_nle.mp c_39)
          have ih' := ih hlt
          rw [e9] at ih'
          rw [sj_n1]
          exact ih' _
      · refine sj_iconstv C (-1) 23 rfl dX4_mostAlike_22 rfl ?_
        refine sj_goto C 34 rfl dX4_mostAlike_23 ?_
        refine sj_istore_5 C 36 rfl dX4_mostAlike_34 rfl rfl ?_
        refine sj_iload C 38 rfl dX4_mostAlike_36 rfl ?_
        refine sj_iload_n C 39 rfl dX4_mostAlike_38 rfl rfl ?_
        refine sj_icmp_le C 48 42 rfl rfl dX4_mostAlike_39 (fun c_39 => ?_) (fun c_39 => ?_)
        · refine sj_iinc_4 C 51 rfl dX4_mostAlike_48 rfl rfl ?_
          refine sj_goto C 7 rfl dX4_mostAlike_51 ?_
          have eki : k = i := (nI_eq (by omega) (by omega)).mp c_19
          have e9 : sj_mal m i (k + 1) = sj_mal m i k := if_pos eki
          have ih' := ih hlt
          rw [e9] at ih'
          rw [sj_n1]
          exact ih' _
        · refine sj_iload C 44 rfl dX4_mostAlike_42 rfl ?_
          refine sj_istore_n_3 C 45 rfl dX4_mostAlike_44 rfl rfl ?_
          refine sj_iload C 47 rfl dX4_mostAlike_45 rfl ?_
          refine sj_istore_n_2 C 48 rfl dX4_mostAlike_47 rfl rfl ?_
          refine sj_iinc_4 C 51 rfl dX4_mostAlike_48 rfl rfl ?_
          refine sj_goto C 7 rfl dX4_mostAlike_51 ?_
          exact absurd (sj_nle.mp c_39) (Int32.not_lt.mpr (sq_mo_ge m i _))
  refine sj_iconstv C (-1) 1 rfl dX4_mostAlike_0 rfl ?_
  refine sj_istore_n_2 C 2 rfl dX4_mostAlike_1 rfl rfl ?_
  refine sj_iconstv C (-1) 3 rfl dX4_mostAlike_2 rfl ?_
  refine sj_istore_n_3 C 4 rfl dX4_mostAlike_3 rfl rfl ?_
  refine sj_iconstv C (0) 5 rfl dX4_mostAlike_4 rfl ?_
  refine sj_istore_4 C 7 rfl dX4_mostAlike_5 rfl rfl ?_
  exact cut_7 _
set_option maxRecDepth 100000 in
set_option maxHeartbeats 200000 in
theorem ct_X4_mostOfAHand (l : Launch) {S : sj_St} {F : Nat → Prop} {D : Nat → Nat} {m : Nat → Int32} (h : sq_T S F D m) (hI : sj_inv m) : sj_Ctr l mX4_mostOfAHand [.ref (D 0)] S (sj_eq (some (.int (sj_moh m))) S) := by
  refine sj_start ([some (.ref (D 0)), none, none, none, none]) (by decide +kernel) rfl rfl (fun X hX C hR => ?_)
  subst hX
  obtain ⟨⟨kd_t, rf_t_0, ⟨rf_t_1, kd_sh, il_sh⟩, ⟨rf_t_2, hag⟩, ⟨rf_t_4, hol⟩, ⟨rf_t_5, hse⟩, hinj⟩, ⟨h3, h6, h7⟩, hA, hE, hRo, hSh⟩ := id h
  have kd_ag := hag.1
  have kd_o := hol.1
  have kd_se := hse.1
  obtain ⟨h9, hn8⟩ := id hI.1
  have hv := sj_inv_oav hI
  have cut_17 : ∀ i, i < (sj_tn (m 9)) → (∀ o3 o4, sj_G X S 0 0 [some (.ref (D 0)), some (.int (sj_big (sq_mem m) (i + 1))), some (.int (nI (i + 1))), o3, o4] 4 []) → sj_G X S 0 0 [some (.ref (D 0)), some (.int (sj_big (sq_mem m) (i))), some (.int (nI (i))), some (.int (sj_sum (fun j => sj_bi (sj_a1 m i j)) 0)), some (.int (nI 0))] 17 [] := by
    intro i hi hnext
    refine sj_down (fun k => sj_G X S 0 0 [some (.ref (D 0)), some (.int (sj_big (sq_mem m) (i))), some (.int (nI (i))), some (.int (sj_sum (fun j => sj_bi (sj_a1 m i j)) k)), some (.int (nI k))] 17 []) (sj_tn (m 9)) (fun k hk ih => ?_)
    refine sj_iload C 19 rfl dX4_mostOfAHand_17 rfl ?_
    refine sj_aload_n C 20 rfl dX4_mostOfAHand_19 rfl rfl ?_
    refine sj_getI C 23 rfl fd_X4_65 dX4_mostOfAHand_20 kd_t ?_
    rw [h3]
    refine sj_icmp_ge C 50 26 rfl rfl dX4_mostOfAHand_23 (fun c_23 => ?_) (fun c_23 => ?_)
    · have hkn : k = (sj_tn (m 9)) := by
        have h8 : ¬ k < (sj_tn (m 9)) := fun h7 => nI_ge h7 (by omega) (by rw [← h9]; exact c_23)
        omega
      refine sj_iload_n C 51 rfl dX4_mostOfAHand_50 rfl rfl ?_
      refine sj_iload_n C 52 rfl dX4_mostOfAHand_51 rfl rfl ?_
      refine sj_mmax C 55 rfl dX4_mostOfAHand_52 cv_X4_88 rfl ?_
      refine sj_istore_n_1 C 56 rfl dX4_mostOfAHand_55 rfl rfl ?_
      refine sj_iinc_2 C 59 rfl dX4_mostOfAHand_56 rfl rfl ?_
      refine sj_goto C 4 rfl dX4_mostOfAHand_59 ?_
      rw [sj_n1]
      rw [show (if sj_big (sq_mem m) i < sj_sum (fun j => sj_bi (sj_a1 m i j)) k then sj_sum (fun j => sj_bi (sj_a1 m i j)) k else sj_big (sq_mem m) i) = sj_big (sq_mem m) (i + 1) from by rw [hkn]; rfl]
      exact hnext _ _
    · have hlt : k < (sj_tn (m 9)) := Nat.not_le.mp fun h8 => c_23 (by rw [h9]; exact nI_le h8 (by omega))
      refine sj_iload_n C 27 rfl dX4_mostOfAHand_26 rfl rfl ?_
      refine sj_aload_n C 28 rfl dX4_mostOfAHand_27 rfl rfl ?_
      refine sj_iload_n C 29 rfl dX4_mostOfAHand_28 rfl rfl ?_
      refine sj_iload C 31 rfl dX4_mostOfAHand_29 rfl ?_
      refine sj_callVd C 34 rfl dX4_mostOfAHand_31 cv_X4_145 rfl (ct_X4_areOfOneHand _ h hI (i := i) (e := k) (by omega) (by omega)) rfl rfl rfl ⟨_, _, kd_t, rfl, rfl, by decide⟩ ⟨rfl, rfl⟩ ?_
      refine sj_if_eq C 41 37 rfl rfl dX4_mostOfAHand_34 (fun c_34 => ?_) (fun c_34 => ?_)
      · refine sj_iconstv C (0) 42 rfl dX4_mostOfAHand_41 rfl ?_
        refine sj_iadd C 43 rfl dX4_mostOfAHand_42 ?_
        refine sj_istore_n_3 C 44 rfl dX4_mostOfAHand_43 rfl rfl ?_
        refine sj_iinc_4 C 47 rfl dX4_mostOfAHand_44 rfl rfl ?_
        refine sj_goto C 17 rfl dX4_mostOfAHand_47 ?_
        have e9 : sj_sum (fun j => sj_bi (sj_a1 m i j)) (k + 1) = sj_sum (fun j => sj_bi (sj_a1 m i j)) k + 0 := congrArg (fun z => sj_sum (fun j => sj_bi (sj_a1 m i j)) k + z) (by
          show sj_bi (sj_a1 m i k) = 0
          rw [sj_bi0.mp c_34]; rfl)
        have ih' := ih hlt
        rw [e9] at ih'
        rw [sj_n1]
        exact ih'
      · refine sj_iconstv C (1) 38 rfl dX4_mostOfAHand_37 rfl ?_
        refine sj_goto C 42 rfl dX4_mostOfAHand_38 ?_
        refine sj_iadd C 43 rfl dX4_mostOfAHand_42 ?_
        refine sj_istore_n_3 C 44 rfl dX4_mostOfAHand_43 rfl rfl ?_
        refine sj_iinc_4 C 47 rfl dX4_mostOfAHand_44 rfl rfl ?_
        refine sj_goto C 17 rfl dX4_mostOfAHand_47 ?_
        have e9 : sj_sum (fun j => sj_bi (sj_a1 m i j)) (k + 1) = sj_sum (fun j => sj_bi (sj_a1 m i j)) k + 1 := congrArg (fun z => sj_sum (fun j => sj_bi (sj_a1 m i j)) k + z) (by
          show sj_bi (sj_a1 m i k) = 1
          rw [sj_bin.mp c_34]; rfl)
        have ih' := ih hlt
        rw [e9] at ih'
        rw [sj_n1]
        exact ih'
  have cut_4 : ∀ o3 o4, sj_G X S 0 0 [some (.ref (D 0)), some (.int (sj_big (sq_mem m) (0))), some (.int (nI (0))), o3, o4] 4 [] := by
    refine sj_down (fun i => ∀ o3 o4, sj_G X S 0 0 [some (.ref (D 0)), some (.int (sj_big (sq_mem m) (i))), some (.int (nI (i))), o3, o4] 4 []) (sj_tn (m 9)) (fun i hk ih => ?_)
    intro o3 o4
    refine sj_iload_n C 5 rfl dX4_mostOfAHand_4 rfl rfl ?_
    refine sj_aload_n C 6 rfl dX4_mostOfAHand_5 rfl rfl ?_
    refine sj_getI C 9 rfl fd_X4_65 dX4_mostOfAHand_6 kd_t ?_
    rw [h3]
    refine sj_icmp_ge C 62 12 rfl rfl dX4_mostOfAHand_9 (fun c_9 => ?_) (fun c_9 => ?_)
    · have hkn : i = (sj_tn (m 9)) := by
        have h8 : ¬ i < (sj_tn (m 9)) := fun h7 => nI_ge h7 (by omega) (by rw [← h9]; exact c_9)
        omega
      refine sj_iload_n C 63 rfl dX4_mostOfAHand_62 rfl rfl ?_
      refine sj_iret C hR rfl rfl dX4_mostOfAHand_63 ?_
      refine ⟨congrArg (fun z => some (Value.int z)) ?_, rfl⟩
      rw [hkn]
      exact sq_moh hv
    · have hli : i < (sj_tn (m 9)) := Nat.not_le.mp fun h8 => c_9 (by rw [h9]; exact nI_le h8 (by omega))
      refine sj_iconstv C (0) 13 rfl dX4_mostOfAHand_12 rfl ?_
      refine sj_istore_n_3 C 14 rfl dX4_mostOfAHand_13 rfl rfl ?_
      refine sj_iconstv C (0) 15 rfl dX4_mostOfAHand_14 rfl ?_
      refine sj_istore_4 C 17 rfl dX4_mostOfAHand_15 rfl rfl ?_
      exact cut_17 i hli (fun o3 o4 => ih hli o3 o4)
  refine sj_iconstv C (0) 1 rfl dX4_mostOfAHand_0 rfl ?_
  refine sj_istore_n_1 C 2 rfl dX4_mostOfAHand_1 rfl rfl ?_
  refine sj_iconstv C (0) 3 rfl dX4_mostOfAHand_2 rfl ?_
  refine sj_istore_n_2 C 4 rfl dX4_mostOfAHand_3 rfl rfl ?_
  exact cut_4 _ _
set_option maxRecDepth 100000 in
set_option maxHeartbeats 200000 in
theorem ct_X4_likePairs (l : Launch) {S : sj_St} {F : Nat → Prop} {D : Nat → Nat} {m : Nat → Int32} (h : sq_T S F D m) (hI : sj_inv m) : sj_Ctr l mX4_likePairs [.ref (D 0)] S (sj_eq (some (.int (sj_lps m (sj_tn (m 9))))) S) := by
  refine sj_start ([some (.ref (D 0)), none, none, none]) (by decide +kernel) rfl rfl (fun X hX C hR => ?_)
  subst hX
  obtain ⟨⟨kd_t, rf_t_0, ⟨rf_t_1, kd_sh, il_sh⟩, ⟨rf_t_2, hag⟩, ⟨rf_t_4, hol⟩, ⟨rf_t_5, hse⟩, hinj⟩, ⟨h3, h6, h7⟩, hA, hE, hRo, hSh⟩ := id h
  have kd_ag := hag.1
  have kd_o := hol.1
  have kd_se := hse.1
  obtain ⟨h9, hn8⟩ := id hI.1
  have hv := sj_inv_oav hI
  have cut_16 : ∀ i, i < (sj_tn (m 9)) → (∀ o3, sj_G X S 0 0 [some (.ref (D 0)), some (.int (sq_ps (fun k e => sj_bi (decide (m 8 ≤ sj_lik m k e))) (sj_tn (m 9)) (i + 1))), some (.int (nI (i + 1))), o3] 4 []) → sj_G X S 0 0 [some (.ref (D 0)), some (.int ((sq_ps (fun k e => sj_bi (decide (m 8 ≤ sj_lik m k e))) (sj_tn (m 9)) (i)) + (sj_sum (fun t => sj_bi (decide (m 8 ≤ sj_lik m i (i + 1 + t)))) (0)))), some (.int (nI i)), some (.int (nI (i + 1 + 0)))] 16 [] := by
    intro i hi hnext
    refine sj_down (fun t => sj_G X S 0 0 [some (.ref (D 0)), some (.int ((sq_ps (fun k e => sj_bi (decide (m 8 ≤ sj_lik m k e))) (sj_tn (m 9)) (i)) + (sj_sum (fun t => sj_bi (decide (m 8 ≤ sj_lik m i (i + 1 + t)))) (t)))), some (.int (nI i)), some (.int (nI (i + 1 + t)))] 16 []) ((sj_tn (m 9)) - (i + 1)) (fun t hk ih => ?_)
    refine sj_iload_n C 17 rfl dX4_likePairs_16 rfl rfl ?_
    refine sj_aload_n C 18 rfl dX4_likePairs_17 rfl rfl ?_
    refine sj_getI C 21 rfl fd_X4_65 dX4_likePairs_18 kd_t ?_
    rw [h3]
    refine sj_icmp_ge C 57 24 rfl rfl dX4_likePairs_21 (fun c_21 => ?_) (fun c_21 => ?_)
    · have htn : t = (sj_tn (m 9)) - (i + 1) := by
        have h8 : ¬ i + 1 + t < (sj_tn (m 9)) := fun h7 => nI_ge h7 (by omega) (by rw [← h9]; exact c_21)
        omega
      refine sj_iinc_2 C 60 rfl dX4_likePairs_57 rfl rfl ?_
      refine sj_goto C 4 rfl dX4_likePairs_60 ?_
      rw [sj_n1]
      rw [show (sq_ps (fun k e => sj_bi (decide (m 8 ≤ sj_lik m k e))) (sj_tn (m 9)) (i)) + (sj_sum (fun t => sj_bi (decide (m 8 ≤ sj_lik m i (i + 1 + t)))) (t)) = (sq_ps (fun k e => sj_bi (decide (m 8 ≤ sj_lik m k e))) (sj_tn (m 9)) (i + 1)) from by rw [htn]; rfl]
      exact hnext _
    · have hlt : i + 1 + t < (sj_tn (m 9)) := Nat.not_le.mp fun h8 => c_21 (by rw [h9]; exact nI_le h8 (by omega))
      refine sj_iload_n C 25 rfl dX4_likePairs_24 rfl rfl ?_
      refine sj_aload_n C 26 rfl dX4_likePairs_25 rfl rfl ?_
      refine sj_iload_n C 27 rfl dX4_likePairs_26 rfl rfl ?_
      refine sj_iload_n C 28 rfl dX4_likePairs_27 rfl rfl ?_
      refine sj_iconstv C (0) 29 rfl dX4_likePairs_28 rfl ?_
      refine sj_callVd C 32 rfl dX4_likePairs_29 cv_X4_134 rfl (sq_lik0 _ h hI hi hlt) rfl rfl rfl ⟨_, _, kd_t, rfl, rfl, by decide⟩ ⟨rfl, rfl⟩ ?_
      refine sj_aload_n C 33 rfl dX4_likePairs_32 rfl rfl ?_
      refine sj_getr C 36 rfl fd_X4_40 dX4_likePairs_33 kd_t rf_t_5 ?_
      refine sj_bipush C (8) 38 rfl dX4_likePairs_36 (by decide) ?_
      refine sj_callVd C 41 rfl dX4_likePairs_38 cv_X4_79 rfl (ct_X2_at _ hse _) rfl rfl rfl ⟨_, _, kd_se, rfl, rfl, by decide⟩ ⟨rfl, rfl⟩ ?_
      rw [show sj_at 9 (sj_ia S (D 15)) 8 = m 8 from (sj_at_nI (j := 8) _ (by omega) (by omega)).trans (hE 8 (by omega))]
      refine sj_icmp_lt C 48 44 rfl rfl dX4_likePairs_41 (fun c_41 => ?_) (fun c_41 => ?_)
      · refine sj_iconstv C (0) 49 rfl dX4_likePairs_48 rfl ?_
        refine sj_iadd C 50 rfl dX4_likePairs_49 ?_
        refine sj_istore_n_1 C 51 rfl dX4_likePairs_50 rfl rfl ?_
        refine sj_iinc_3 C 54 rfl dX4_likePairs_51 rfl rfl ?_
        refine sj_goto C 16 rfl dX4_likePairs_54 ?_
        have e9 : (sj_sum (fun t => sj_bi (decide (m 8 ≤ sj_lik m i (i + 1 + t)))) (t + 1)) = (sj_sum (fun t => sj_bi (decide (m 8 ≤ sj_lik m i (i + 1 + t)))) (t)) + 0 := congrArg (fun z => (sj_sum (fun t => sj_bi (decide (m 8 ≤ sj_lik m i (i + 1 + t)))) (t)) + z) (by
          show sj_bi (decide (m 8 ≤ sj_lik m i (i + 1 + t))) = 0
          rw [decide_eq_false (sj_nle.mpr c_41)]; rfl)
        have ih' := ih (by omega)
        rw [e9, ← Int32.add_assoc] at ih'
        rw [sj_n1]
        exact ih'
      · refine sj_iconstv C (1) 45 rfl dX4_likePairs_44 rfl ?_
        refine sj_goto C 49 rfl dX4_likePairs_45 ?_
        refine sj_iadd C 50 rfl dX4_likePairs_49 ?_
        refine sj_istore_n_1 C 51 rfl dX4_likePairs_50 rfl rfl ?_
        refine sj_iinc_3 C 54 rfl dX4_likePairs_51 rfl rfl ?_
        refine sj_goto C 16 rfl dX4_likePairs_54 ?_
        have e9 : (sj_sum (fun t => sj_bi (decide (m 8 ≤ sj_lik m i (i + 1 + t)))) (t + 1)) = (sj_sum (fun t => sj_bi (decide (m 8 ≤ sj_lik m i (i + 1 + t)))) (t)) + 1 := congrArg (fun z => (sj_sum (fun t => sj_bi (decide (m 8 ≤ sj_lik m i (i + 1 + t)))) (t)) + z) (by
          show sj_bi (decide (m 8 ≤ sj_lik m i (i + 1 + t))) = 1
          rw [decide_eq_true (sj_nlt.mp c_41)]; rfl)
        have ih' := ih (by omega)
        rw [e9, ← Int32.add_assoc] at ih'
        rw [sj_n1]
        exact ih'
  have cut_4 : ∀ o3, sj_G X S 0 0 [some (.ref (D 0)), some (.int (sq_ps (fun k e => sj_bi (decide (m 8 ≤ sj_lik m k e))) (sj_tn (m 9)) (0))), some (.int (nI (0))), o3] 4 [] := by
    refine sj_down (fun i => ∀ o3, sj_G X S 0 0 [some (.ref (D 0)), some (.int (sq_ps (fun k e => sj_bi (decide (m 8 ≤ sj_lik m k e))) (sj_tn (m 9)) (i))), some (.int (nI (i))), o3] 4 []) (sj_tn (m 9)) (fun i hk ih => ?_)
    intro o3
    refine sj_iload_n C 5 rfl dX4_likePairs_4 rfl rfl ?_
    refine sj_aload_n C 6 rfl dX4_likePairs_5 rfl rfl ?_
    refine sj_getI C 9 rfl fd_X4_65 dX4_likePairs_6 kd_t ?_
    rw [h3]
    refine sj_icmp_ge C 63 12 rfl rfl dX4_likePairs_9 (fun c_9 => ?_) (fun c_9 => ?_)
    · have hkn : i = (sj_tn (m 9)) := by
        have h8 : ¬ i < (sj_tn (m 9)) := fun h7 => nI_ge h7 (by omega) (by rw [← h9]; exact c_9)
        omega
      refine sj_iload_n C 64 rfl dX4_likePairs_63 rfl rfl ?_
      refine sj_iret C hR rfl rfl dX4_likePairs_64 ?_
      refine ⟨congrArg (fun z => some (Value.int z)) ?_, rfl⟩
      rw [hkn, sj_lps_pl]
      exact sq_ps_pl _ _ (fun a b ha hb => by rw [sj_lik_cm hI ha hb])
    · have hli : i < (sj_tn (m 9)) := Nat.not_le.mp fun h8 => c_9 (by rw [h9]; exact nI_le h8 (by omega))
      refine sj_iload_n C 13 rfl dX4_likePairs_12 rfl rfl ?_
      refine sj_iconstv C (1) 14 rfl dX4_likePairs_13 rfl ?_
      refine sj_iadd C 15 rfl dX4_likePairs_14 ?_
      refine sj_istore_n_3 C 16 rfl dX4_likePairs_15 rfl rfl ?_
      rw [nI_1]
      have h16 := cut_16 i hli (fun o3 => ih hli o3)
      rw [show sj_sum (fun t => sj_bi (decide (m 8 ≤ sj_lik m i (i + 1 + t)))) 0 = 0 from rfl, Int32.add_zero] at h16
      exact h16
  refine sj_iconstv C (0) 1 rfl dX4_likePairs_0 rfl ?_
  refine sj_istore_n_1 C 2 rfl dX4_likePairs_1 rfl rfl ?_
  refine sj_iconstv C (0) 3 rfl dX4_likePairs_2 rfl ?_
  refine sj_istore_n_2 C 4 rfl dX4_likePairs_3 rfl rfl ?_
  exact cut_4 _
set_option maxRecDepth 100000 in
set_option maxHeartbeats 250000 in
theorem ct_X4_shareOfHands (l : Launch) {S : sj_St} {F : Nat → Prop} {D : Nat → Nat} {m : Nat → Int32} (h : sq_T S F D m) (hI : sj_inv m) : sj_Ctr l mX4_shareOfHands [.ref (D 0)] S (sj_eq (some (.double (sj_shr m))) S) := by
  refine sj_start ([some (.ref (D 0)), none, none, none, none]) (by decide +kernel) rfl rfl (fun X hX C hR => ?_)
  subst hX
  obtain ⟨⟨kd_t, rf_t_0, ⟨rf_t_1, kd_sh, il_sh⟩, ⟨rf_t_2, hag⟩, ⟨rf_t_4, hol⟩, ⟨rf_t_5, hse⟩, hinj⟩, ⟨h3, h6, h7⟩, hA, hE, hRo, hSh⟩ := id h
  have kd_ag := hag.1
  have kd_o := hol.1
  have kd_se := hse.1
  obtain ⟨h9, hn8⟩ := id hI.1
  have hv := sj_inv_oav hI
  have cut_19 : ∀ i, i < (sj_tn (m 9)) → (∀ o4, sj_G X S 0 0 [some (.ref (D 0)), some (.int (sq_ps (fun k e => sj_bi (sj_a1 m k e)) (sj_tn (m 9)) (i + 1))), some (.int (sq_ps (fun k e => if sj_a1 m k e then sj_lik m k e else 0) (sj_tn (m 9)) (i + 1))), some (.int (nI (i + 1))), o4] 6 []) → sj_G X S 0 0 [some (.ref (D 0)), some (.int ((sq_ps (fun k e => sj_bi (sj_a1 m k e)) (sj_tn (m 9)) (i)) + (sj_sum (fun t => sj_bi (sj_a1 m i (i + 1 + t))) (0)))), some (.int ((sq_ps (fun k e => if sj_a1 m k e then sj_lik m k e else 0) (sj_tn (m 9)) (i)) + (sj_sum (fun t => if sj_a1 m i (i + 1 + t) then sj_lik m i (i + 1 + t) else 0) (0)))), some (.int (nI i)), some (.int (nI (i + 1 + 0)))] 19 [] := by
    intro i hi hnext
    refine sj_down (fun t => sj_G X S 0 0 [some (.ref (D 0)), some (.int ((sq_ps (fun k e => sj_bi (sj_a1 m k e)) (sj_tn (m 9)) (i)) + (sj_sum (fun t => sj_bi (sj_a1 m i (i + 1 + t))) (t)))), some (.int ((sq_ps (fun k e => if sj_a1 m k e then sj_lik m k e else 0) (sj_tn (m 9)) (i)) + (sj_sum (fun t => if sj_a1 m i (i + 1 + t) then sj_lik m i (i + 1 + t) else 0) (t)))), some (.int (nI i)), some (.int (nI (i + 1 + t)))] 19 []) ((sj_tn (m 9)) - (i + 1)) (fun t hk ih => ?_)
    refine sj_iload C 21 rfl dX4_shareOfHands_19 rfl ?_
    refine sj_aload_n C 22 rfl dX4_shareOfHands_21 rfl rfl ?_
    refine sj_getI C 25 rfl fd_X4_65 dX4_shareOfHands_22 kd_t ?_
    rw [h3]
    refine sj_icmp_ge C 58 28 rfl rfl dX4_shareOfHands_25 (fun c_25 => ?_) (fun c_25 => ?_)
    · have htn : t = (sj_tn (m 9)) - (i + 1) := by
        have h8 : ¬ i + 1 + t < (sj_tn (m 9)) := fun h7 => nI_ge h7 (by omega) (by rw [← h9]; exact c_25)
        omega
      refine sj_iinc_3 C 61 rfl dX4_shareOfHands_58 rfl rfl ?_
      refine sj_goto C 6 rfl dX4_shareOfHands_61 ?_
      rw [sj_n1]
      rw [show (sq_ps (fun k e => sj_bi (sj_a1 m k e)) (sj_tn (m 9)) (i)) + (sj_sum (fun t => sj_bi (sj_a1 m i (i + 1 + t))) (t)) = (sq_ps (fun k e => sj_bi (sj_a1 m k e)) (sj_tn (m 9)) (i + 1)) from by rw [htn]; rfl, show (sq_ps (fun k e => if sj_a1 m k e then sj_lik m k e else 0) (sj_tn (m 9)) (i)) + (sj_sum (fun t => if sj_a1 m i (i + 1 + t) then sj_lik m i (i + 1 + t) else 0) (t)) = (sq_ps (fun k e => if sj_a1 m k e then sj_lik m k e else 0) (sj_tn (m 9)) (i + 1)) from by rw [htn]; rfl]
      exact hnext _
    · have hlt : i + 1 + t < (sj_tn (m 9)) := Nat.not_le.mp fun h8 => c_25 (by rw [h9]; exact nI_le h8 (by omega))
      refine sj_aload_n C 29 rfl dX4_shareOfHands_28 rfl rfl ?_
      refine sj_iload_n C 30 rfl dX4_shareOfHands_29 rfl rfl ?_
      refine sj_iload C 32 rfl dX4_shareOfHands_30 rfl ?_
      refine sj_callVd C 35 rfl dX4_shareOfHands_32 cv_X4_145 rfl (ct_X4_areOfOneHand _ h hI (i := i) (e := i + 1 + t) (by omega) (by omega)) rfl rfl rfl ⟨_, _, kd_t, rfl, rfl, by decide⟩ ⟨rfl, rfl⟩ ?_
      refine sj_if_eq C 52 38 rfl rfl dX4_shareOfHands_35 (fun c_35 => ?_) (fun c_35 => ?_)
      · refine sj_iinc_4 C 55 rfl dX4_shareOfHands_52 rfl rfl ?_
        refine sj_goto C 19 rfl dX4_shareOfHands_55 ?_
        have e9 : (sj_sum (fun t => sj_bi (sj_a1 m i (i + 1 + t))) (t + 1)) = (sj_sum (fun t => sj_bi (sj_a1 m i (i + 1 + t))) (t)) + 0 := congrArg (fun z => (sj_sum (fun t => sj_bi (sj_a1 m i (i + 1 + t))) (t)) + z) (by
          show sj_bi (sj_a1 m i (i + 1 + t)) = 0
          rw [sj_bi0.mp c_35]; rfl)
        have e8 : (sj_sum (fun t => if sj_a1 m i (i + 1 + t) then sj_lik m i (i + 1 + t) else 0) (t + 1)) = (sj_sum (fun t => if sj_a1 m i (i + 1 + t) then sj_lik m i (i + 1 + t) else 0) (t)) + 0 := congrArg (fun z => (sj_sum (fun t => if sj_a1 m i (i + 1 + t) then sj_lik m i (i + 1 + t) else 0) (t)) + z) (by
          show (if sj_a1 m i (i + 1 + t) then sj_lik m i (i + 1 + t) else 0) = 0
          rw [sj_bi0.mp c_35]; rfl)
        have ih' := ih (by omega)
        rw [e9, e8, ← Int32.add_assoc, ← Int32.add_assoc] at ih'
        rw [sj_n1]
        rw [Int32.add_zero, Int32.add_zero] at ih'
        exact ih'
      · refine sj_iinc_1 C 41 rfl dX4_shareOfHands_38 rfl rfl ?_
        refine sj_iload_n C 42 rfl dX4_shareOfHands_41 rfl rfl ?_
        refine sj_aload_n C 43 rfl dX4_shareOfHands_42 rfl rfl ?_
        refine sj_iload_n C 44 rfl dX4_shareOfHands_43 rfl rfl ?_
        refine sj_iload C 46 rfl dX4_shareOfHands_44 rfl ?_
        refine sj_iconstv C (0) 47 rfl dX4_shareOfHands_46 rfl ?_
        refine sj_callVd C 50 rfl dX4_shareOfHands_47 cv_X4_134 rfl (sq_lik0 _ h hI hi hlt) rfl rfl rfl ⟨_, _, kd_t, rfl, rfl, by decide⟩ ⟨rfl, rfl⟩ ?_
        refine sj_iadd C 51 rfl dX4_shareOfHands_50 ?_
        refine sj_istore_n_2 C 52 rfl dX4_shareOfHands_51 rfl rfl ?_
        refine sj_iinc_4 C 55 rfl dX4_shareOfHands_52 rfl rfl ?_
        refine sj_goto C 19 rfl dX4_shareOfHands_55 ?_
        have e9 : (sj_sum (fun t => sj_bi (sj_a1 m i (i + 1 + t))) (t + 1)) = (sj_sum (fun t => sj_bi (sj_a1 m i (i + 1 + t))) (t)) + 1 := congrArg (fun z => (sj_sum (fun t => sj_bi (sj_a1 m i (i + 1 + t))) (t)) + z) (by
          show sj_bi (sj_a1 m i (i + 1 + t)) = 1
          rw [sj_bin.mp c_35]; rfl)
        have e8 : (sj_sum (fun t => if sj_a1 m i (i + 1 + t) then sj_lik m i (i + 1 + t) else 0) (t + 1)) = (sj_sum (fun t => if sj_a1 m i (i + 1 + t) then sj_lik m i (i + 1 + t) else 0) (t)) + sj_lik m i (i + 1 + t) := congrArg (fun z => (sj_sum (fun t => if sj_a1 m i (i + 1 + t) then sj_lik m i (i + 1 + t) else 0) (t)) + z) (by
          show (if sj_a1 m i (i + 1 + t) then sj_lik m i (i + 1 + t) else 0) = sj_lik m i (i + 1 + t)
          rw [sj_bin.mp c_35]; rfl)
        have ih' := ih (by omega)
        rw [e9, e8, ← Int32.add_assoc, ← Int32.add_assoc] at ih'
        rw [sj_n1]
        exact ih'
  have cut_6 : ∀ o4, sj_G X S 0 0 [some (.ref (D 0)), some (.int (sq_ps (fun k e => sj_bi (sj_a1 m k e)) (sj_tn (m 9)) (0))), some (.int (sq_ps (fun k e => if sj_a1 m k e then sj_lik m k e else 0) (sj_tn (m 9)) (0))), some (.int (nI (0))), o4] 6 [] := by
    refine sj_down (fun i => ∀ o4, sj_G X S 0 0 [some (.ref (D 0)), some (.int (sq_ps (fun k e => sj_bi (sj_a1 m k e)) (sj_tn (m 9)) (i))), some (.int (sq_ps (fun k e => if sj_a1 m k e then sj_lik m k e else 0) (sj_tn (m 9)) (i))), some (.int (nI (i))), o4] 6 []) (sj_tn (m 9)) (fun i hk ih => ?_)
    intro o4
    refine sj_iload_n C 7 rfl dX4_shareOfHands_6 rfl rfl ?_
    refine sj_aload_n C 8 rfl dX4_shareOfHands_7 rfl rfl ?_
    refine sj_getI C 11 rfl fd_X4_65 dX4_shareOfHands_8 kd_t ?_
    rw [h3]
    refine sj_icmp_ge C 64 14 rfl rfl dX4_shareOfHands_11 (fun c_11 => ?_) (fun c_11 => ?_)
    · have hkn : i = (sj_tn (m 9)) := by
        have h8 : ¬ i < (sj_tn (m 9)) := fun h7 => nI_ge h7 (by omega) (by rw [← h9]; exact c_11)
        omega
      rw [hkn, sq_ps_pl (fun k e => sj_bi (sj_a1 m k e)) _ (fun a b _ _ => by rw [sj_a1_cm]), sq_ps_pl (fun k e => if sj_a1 m k e then sj_lik m k e else 0) _ (fun a b ha hb => by rw [sj_a1_cm, sj_lik_cm hI ha hb]), ← sj_shp_pl, ← sj_shl_pl]
      refine sj_iload_n C 65 rfl dX4_shareOfHands_64 rfl rfl ?_
      refine sj_if_gt C 72 68 rfl rfl dX4_shareOfHands_65 (fun c_65 => ?_) (fun c_65 => ?_)
      · refine sj_iload_n C 73 rfl dX4_shareOfHands_72 rfl rfl ?_
        refine sj_i2d C 74 rfl dX4_shareOfHands_73 ?_
        refine sj_bipush C (6) 76 rfl dX4_shareOfHands_74 (by decide) ?_
        refine sj_iload_n C 77 rfl dX4_shareOfHands_76 rfl rfl ?_
        refine sj_imul C 78 rfl dX4_shareOfHands_77 ?_
        refine sj_i2d C 79 rfl dX4_shareOfHands_78 ?_
        refine sj_ddiv C 80 rfl dX4_shareOfHands_79 (sj_shok_n (sj_sh_d hn8 (fun e => by rw [e] at c_65; exact absurd c_65 (by decide)))) ?_
        refine sj_dret C hR rfl rfl dX4_shareOfHands_80 ?_
        refine ⟨congrArg (fun z => some (Value.double z)) ?_, rfl⟩
        unfold sj_shr
        rw [if_neg (fun e => by rw [e] at c_65; exact absurd c_65 (by decide))]
      · refine sj_dconst1 C 69 rfl dX4_shareOfHands_68 ?_
        refine sj_goto C 80 rfl dX4_shareOfHands_69 ?_
        refine sj_dret C hR rfl rfl dX4_shareOfHands_80 ?_
        refine ⟨congrArg (fun z => some (Value.double z)) ?_, rfl⟩
        unfold sj_shr
        have hz : sj_shp m (sj_tn (m 9)) = 0 ∨ 0 < sj_shp m (sj_tn (m 9)) := by
          obtain ⟨c, s, e1, -, -, -⟩ := sj_sh_out m (sj_tn (m 9))
          rcases sj_sh_ps m hn8 with h1 | ⟨p, s, hp, hs, hsp, e1, e2⟩
          · exact Or.inl h1
          · rw [e1]
            exact Or.inr (Int32.not_le.mp (nI_nle (by omega) (by omega)))
        rw [if_pos (hz.elim id (fun h8 => absurd h8 c_65))]
    · have hli : i < (sj_tn (m 9)) := Nat.not_le.mp fun h8 => c_11 (by rw [h9]; exact nI_le h8 (by omega))
      refine sj_iload_n C 15 rfl dX4_shareOfHands_14 rfl rfl ?_
      refine sj_iconstv C (1) 16 rfl dX4_shareOfHands_15 rfl ?_
      refine sj_iadd C 17 rfl dX4_shareOfHands_16 ?_
      refine sj_istore_4 C 19 rfl dX4_shareOfHands_17 rfl rfl ?_
      rw [nI_1]
      have h19 := cut_19 i hli (fun o4 => ih hli o4)
      rw [show sj_sum (fun t => sj_bi (sj_a1 m i (i + 1 + t))) 0 = 0 from rfl, show sj_sum (fun t => if sj_a1 m i (i + 1 + t) then sj_lik m i (i + 1 + t) else 0) 0 = 0 from rfl, Int32.add_zero, Int32.add_zero] at h19
      exact h19
  refine sj_iconstv C (0) 1 rfl dX4_shareOfHands_0 rfl ?_
  refine sj_istore_n_1 C 2 rfl dX4_shareOfHands_1 rfl rfl ?_
  refine sj_iconstv C (0) 3 rfl dX4_shareOfHands_2 rfl ?_
  refine sj_istore_n_2 C 4 rfl dX4_shareOfHands_3 rfl rfl ?_
  refine sj_iconstv C (0) 5 rfl dX4_shareOfHands_4 rfl ?_
  refine sj_istore_n_3 C 6 rfl dX4_shareOfHands_5 rfl rfl ?_
  exact cut_6 _
set_option maxRecDepth 100000 in
set_option maxHeartbeats 150000 in
theorem ct_X4_numberOfSheet (l : Launch) {S : sj_St} {F : Nat → Prop} {D : Nat → Nat} {m : Nat → Int32} (h : sq_T S F D m) (hI : sj_inv m) {i : Nat} (hi : i < (sj_tn (m 9))) {w : Nat} (hw : w < 7) : sj_Ctr l mX4_numberOfSheet [.ref (D 0), .int (nI i), .int (nI w)] S (sj_eq (some (.int (sj_ts m i w))) S) := by
  refine sj_start ([some (.ref (D 0)), some (.int (nI i)), some (.int (nI w))]) (by decide +kernel) rfl rfl (fun X hX C hR => ?_)
  subst hX
  obtain ⟨⟨kd_t, rf_t_0, ⟨rf_t_1, kd_sh, il_sh⟩, ⟨rf_t_2, hag⟩, ⟨rf_t_4, hol⟩, ⟨rf_t_5, hse⟩, hinj⟩, ⟨h3, h6, h7⟩, hA, hE, hRo, hSh⟩ := id h
  have kd_ag := hag.1
  have kd_o := hol.1
  have kd_se := hse.1
  obtain ⟨h9, hn8⟩ := id hI.1
  have hv := sj_inv_oav hI
  obtain ⟨a, ha, hsm⟩ := hSh i hi
  obtain ⟨rn, cn, rm, cm, hs, hF, hst, hmk⟩ := id hsm
  obtain ⟨kd_a, fi_a, n8, rf_a_1, hrn, rf_a_2, hrm⟩ := id hs
  have kd_rn := hrn.1
  have kd_rm := hrm.1
  have ht : ∀ w, w < 5 → sj_tt (sj_ia S cn) (sj_ns m i) w = sj_tot m i w := fun w hw => sj_sum_cg _ (fun k hk => hst k w hk hw)
  have hon : sj_of m i 1 = nI (sj_ns m i) := (hI.2.2.2.1 i hi).2.1.1
  refine sj_iload_n C 1 rfl dX4_numberOfSheet_0 rfl rfl ?_
  obtain rfl | rfl | rfl | rfl | rfl | rfl | rfl : w = 0 ∨ w = 1 ∨ w = 2 ∨ w = 3 ∨ w = 4 ∨ w = 5 ∨ w = 6 := by omega
  · refine sj_tableIn C 40 dX4_numberOfSheet_1 (by decide) (by decide) rfl rfl ?_
    refine sj_aload_n C 41 rfl dX4_numberOfSheet_40 rfl rfl ?_
    refine sj_iload_n C 42 rfl dX4_numberOfSheet_41 rfl rfl ?_
    refine sj_callVd C 45 rfl dX4_numberOfSheet_42 cv_X4_91 rfl (ct_X4_sheetAt _ h (i := i) (by omega) ha) rfl rfl rfl ⟨_, _, kd_t, rfl, rfl, by decide⟩ ⟨rfl, rfl⟩ ?_
    refine sj_getI C 48 rfl fd_X4_95 dX4_numberOfSheet_45 kd_a ?_
    rw [fi_a]
    refine sj_iret C hR rfl rfl dX4_numberOfSheet_48 ?_
    refine ⟨congrArg (fun z => some (Value.int z)) ?_, rfl⟩
    exact hon.symm
  · refine sj_tableIn C 49 dX4_numberOfSheet_1 (by decide) (by decide) rfl rfl ?_
    refine sj_aload_n C 50 rfl dX4_numberOfSheet_49 rfl rfl ?_
    refine sj_getr C 53 rfl fd_X4_29 dX4_numberOfSheet_50 kd_t rf_t_2 ?_
    refine sj_iload_n C 54 rfl dX4_numberOfSheet_53 rfl rfl ?_
    refine sj_callVd C 57 rfl dX4_numberOfSheet_54 cv_X4_79 rfl (ct_X2_at _ hag _) rfl rfl rfl ⟨_, _, kd_ag, rfl, rfl, by decide⟩ ⟨rfl, rfl⟩ ?_
    rw [sj_at_nI (j := i) _ (by omega) (by omega), hA i hi]
    refine sj_iret C hR rfl rfl dX4_numberOfSheet_57 ?_
    refine ⟨congrArg (fun z => some (Value.int z)) ?_, rfl⟩
    rfl
  · refine sj_tableIn C 58 dX4_numberOfSheet_1 (by decide) (by decide) rfl rfl ?_
    refine sj_aload_n C 59 rfl dX4_numberOfSheet_58 rfl rfl ?_
    refine sj_iload_n C 60 rfl dX4_numberOfSheet_59 rfl rfl ?_
    refine sj_callVd C 63 rfl dX4_numberOfSheet_60 cv_X4_91 rfl (ct_X4_sheetAt _ h (i := i) (by omega) ha) rfl rfl rfl ⟨_, _, kd_t, rfl, rfl, by decide⟩ ⟨rfl, rfl⟩ ?_
    refine sj_iconstv C (2) 64 rfl dX4_numberOfSheet_63 rfl ?_
    refine sj_callVd C 67 rfl dX4_numberOfSheet_64 cv_X4_98 rfl (ct_X3_total _ hs 2 (by omega)) rfl rfl rfl ⟨_, _, kd_a, rfl, rfl, by decide⟩ ⟨rfl, rfl⟩ ?_
    rw [ht 2 (by omega)]
    refine sj_iret C hR rfl rfl dX4_numberOfSheet_67 ?_
    refine ⟨congrArg (fun z => some (Value.int z)) ?_, rfl⟩
    rfl
  · refine sj_tableIn C 68 dX4_numberOfSheet_1 (by decide) (by decide) rfl rfl ?_
    refine sj_aload_n C 69 rfl dX4_numberOfSheet_68 rfl rfl ?_
    refine sj_iload_n C 70 rfl dX4_numberOfSheet_69 rfl rfl ?_
    refine sj_callVd C 73 rfl dX4_numberOfSheet_70 cv_X4_101 rfl (ct_X4_trembles _ h hI hi) rfl rfl rfl ⟨_, _, kd_t, rfl, rfl, by decide⟩ ⟨rfl, rfl⟩ ?_
    refine sj_if_eq C 80 76 rfl rfl dX4_numberOfSheet_73 (fun c_73 => ?_) (fun c_73 => ?_)
    · refine sj_iconstv C (0) 81 rfl dX4_numberOfSheet_80 rfl ?_
      refine sj_iret C hR rfl rfl dX4_numberOfSheet_81 ?_
      refine ⟨congrArg (fun z => some (Value.int z)) ?_, rfl⟩
      show _ = sj_bi (sj_trm m i)
      rw [sj_bi0.mp c_73]
      rfl
    · refine sj_iconstv C (1) 77 rfl dX4_numberOfSheet_76 rfl ?_
      refine sj_goto C 81 rfl dX4_numberOfSheet_77 ?_
      refine sj_iret C hR rfl rfl dX4_numberOfSheet_81 ?_
      refine ⟨congrArg (fun z => some (Value.int z)) ?_, rfl⟩
      show _ = sj_bi (sj_trm m i)
      rw [sj_bin.mp c_73]
      rfl
  · refine sj_tableIn C 82 dX4_numberOfSheet_1 (by decide) (by decide) rfl rfl ?_
    refine sj_aload_n C 83 rfl dX4_numberOfSheet_82 rfl rfl ?_
    refine sj_getr C 86 rfl fd_X4_36 dX4_numberOfSheet_83 kd_t rf_t_4 ?_
    refine sj_iload_n C 87 rfl dX4_numberOfSheet_86 rfl rfl ?_
    refine sj_callVd C 90 rfl dX4_numberOfSheet_87 cv_X4_105 rfl (sq_c_handOf _ hol hv hRo (i := i) (by omega)) rfl rfl rfl ⟨_, _, kd_o, rfl, rfl, by decide⟩ ⟨rfl, rfl⟩ ?_
    refine sj_iret C hR rfl rfl dX4_numberOfSheet_90 ?_
    refine ⟨congrArg (fun z => some (Value.int z)) ?_, rfl⟩
    rfl
  · refine sj_tableIn C 91 dX4_numberOfSheet_1 (by decide) (by decide) rfl rfl ?_
    refine sj_aload_n C 92 rfl dX4_numberOfSheet_91 rfl rfl ?_
    refine sj_getr C 95 rfl fd_X4_36 dX4_numberOfSheet_92 kd_t rf_t_4 ?_
    refine sj_iload_n C 96 rfl dX4_numberOfSheet_95 rfl rfl ?_
    refine sj_callVd C 99 rfl dX4_numberOfSheet_96 cv_X4_108 rfl (sq_c_ofSheet _ hol hv hRo i) rfl rfl rfl ⟨_, _, kd_o, rfl, rfl, by decide⟩ ⟨rfl, rfl⟩ ?_
    refine sj_iret C hR rfl rfl dX4_numberOfSheet_99 ?_
    refine ⟨congrArg (fun z => some (Value.int z)) ?_, rfl⟩
    rfl
  · refine sj_tableOut C 100 dX4_numberOfSheet_1 (by decide) rfl ?_
    refine sj_aload_n C 101 rfl dX4_numberOfSheet_100 rfl rfl ?_
    refine sj_aload_n C 102 rfl dX4_numberOfSheet_101 rfl rfl ?_
    refine sj_getr C 105 rfl fd_X4_29 dX4_numberOfSheet_102 kd_t rf_t_2 ?_
    refine sj_iload_n C 106 rfl dX4_numberOfSheet_105 rfl rfl ?_
    refine sj_callVd C 109 rfl dX4_numberOfSheet_106 cv_X4_79 rfl (ct_X2_at _ hag _) rfl rfl rfl ⟨_, _, kd_ag, rfl, rfl, by decide⟩ ⟨rfl, rfl⟩ ?_
    rw [sj_at_nI (j := i) _ (by omega) (by omega), hA i hi]
    refine sj_callVd C 112 rfl dX4_numberOfSheet_109 cv_X4_111 rfl (ct_X4_fadedMarks _ h hI _) rfl rfl rfl ⟨_, _, kd_t, rfl, rfl, by decide⟩ ⟨rfl, rfl⟩ ?_
    refine sj_if_eq C 119 115 rfl rfl dX4_numberOfSheet_112 (fun c_112 => ?_) (fun c_112 => ?_)
    · refine sj_iconstv C (0) 120 rfl dX4_numberOfSheet_119 rfl ?_
      refine sj_iret C hR rfl rfl dX4_numberOfSheet_120 ?_
      refine ⟨congrArg (fun z => some (Value.int z)) ?_, rfl⟩
      show _ = sj_bi (sj_hf m i)
      unfold sj_hf
      have h8 : ¬ m 6 ≤ sj_of m i 0 := fun h8 => by unfold sq_fd at c_112; rw [if_pos h8] at c_112; exact absurd c_112 (by decide)
      rw [decide_eq_false h8]
      rfl
    · refine sj_iconstv C (1) 116 rfl dX4_numberOfSheet_115 rfl ?_
      refine sj_goto C 120 rfl dX4_numberOfSheet_116 ?_
      refine sj_iret C hR rfl rfl dX4_numberOfSheet_120 ?_
      refine ⟨congrArg (fun z => some (Value.int z)) ?_, rfl⟩
      show _ = sj_bi (sj_hf m i)
      unfold sj_hf
      have h8 : m 6 ≤ sj_of m i 0 := Classical.byContradiction fun h8 => c_112 (by unfold sq_fd; rw [if_neg h8])
      rw [decide_eq_true h8]
      rfl
set_option maxRecDepth 100000 in
set_option maxHeartbeats 150000 in
theorem ct_X4_numberOfAll (l : Launch) {S : sj_St} {F : Nat → Prop} {D : Nat → Nat} {m : Nat → Int32} (h : sq_T S F D m) (hI : sj_inv m) (q : Int32) {w : Nat} (hw : w < 8) : sj_Ctr l mX4_numberOfAll [.ref (D 0), .int (nI w)] S (sj_eq (some (.int (sj_tc m q w))) S) := by
  refine sj_start ([some (.ref (D 0)), some (.int (nI w))]) (by decide +kernel) rfl rfl (fun X hX C hR => ?_)
  subst hX
  obtain ⟨⟨kd_t, rf_t_0, ⟨rf_t_1, kd_sh, il_sh⟩, ⟨rf_t_2, hag⟩, ⟨rf_t_4, hol⟩, ⟨rf_t_5, hse⟩, hinj⟩, ⟨h3, h6, h7⟩, hA, hE, hRo, hSh⟩ := id h
  have kd_ag := hag.1
  have kd_o := hol.1
  have kd_se := hse.1
  obtain ⟨h9, hn8⟩ := id hI.1
  have hv := sj_inv_oav hI
  refine sj_iload_n C 1 rfl dX4_numberOfAll_0 rfl rfl ?_
  obtain rfl | rfl | rfl | rfl | rfl | rfl | rfl | rfl : w = 0 ∨ w = 1 ∨ w = 2 ∨ w = 3 ∨ w = 4 ∨ w = 5 ∨ w = 6 ∨ w = 7 := by omega
  · refine sj_tableIn C 44 dX4_numberOfAll_1 (by decide) (by decide) rfl rfl ?_
    refine sj_aload_n C 45 rfl dX4_numberOfAll_44 rfl rfl ?_
    refine sj_getI C 48 rfl fd_X4_65 dX4_numberOfAll_45 kd_t ?_
    refine sj_iret C hR rfl rfl dX4_numberOfAll_48 ?_
    refine ⟨congrArg (fun z => some (Value.int z)) ?_, rfl⟩
    exact h3
  · refine sj_tableIn C 49 dX4_numberOfAll_1 (by decide) (by decide) rfl rfl ?_
    refine sj_aload_n C 50 rfl dX4_numberOfAll_49 rfl rfl ?_
    refine sj_getr C 53 rfl fd_X4_36 dX4_numberOfAll_50 kd_t rf_t_4 ?_
    refine sj_getI C 56 rfl fd_X4_114 dX4_numberOfAll_53 kd_o ?_
    refine sj_iret C hR rfl rfl dX4_numberOfAll_56 ?_
    refine ⟨congrArg (fun z => some (Value.int z)) ?_, rfl⟩
    exact hRo.1
  · refine sj_tableIn C 57 dX4_numberOfAll_1 (by decide) (by decide) rfl rfl ?_
    refine sj_aload_n C 58 rfl dX4_numberOfAll_57 rfl rfl ?_
    refine sj_getr C 61 rfl fd_X4_36 dX4_numberOfAll_58 kd_t rf_t_4 ?_
    refine sj_callVd C 64 rfl dX4_numberOfAll_61 cv_X4_115 rfl (sq_c_ofOneHand _ hol hv hRo) rfl rfl rfl ⟨_, _, kd_o, rfl, rfl, by decide⟩ ⟨rfl, rfl⟩ ?_
    refine sj_iret C hR rfl rfl dX4_numberOfAll_64 ?_
    refine ⟨congrArg (fun z => some (Value.int z)) ?_, rfl⟩
    rfl
  · refine sj_tableIn C 65 dX4_numberOfAll_1 (by decide) (by decide) rfl rfl ?_
    refine sj_aload_n C 66 rfl dX4_numberOfAll_65 rfl rfl ?_
    refine sj_callVd C 69 rfl dX4_numberOfAll_66 cv_X4_119 rfl (ct_X4_hands _ h hI) rfl rfl rfl ⟨_, _, kd_t, rfl, rfl, by decide⟩ ⟨rfl, rfl⟩ ?_
    refine sj_iret C hR rfl rfl dX4_numberOfAll_69 ?_
    refine ⟨congrArg (fun z => some (Value.int z)) ?_, rfl⟩
    rfl
  · refine sj_tableIn C 70 dX4_numberOfAll_1 (by decide) (by decide) rfl rfl ?_
    refine sj_aload_n C 71 rfl dX4_numberOfAll_70 rfl rfl ?_
    refine sj_callVd C 74 rfl dX4_numberOfAll_71 cv_X4_122 rfl (ct_X4_mostOfAHand _ h hI) rfl rfl rfl ⟨_, _, kd_t, rfl, rfl, by decide⟩ ⟨rfl, rfl⟩ ?_
    refine sj_iret C hR rfl rfl dX4_numberOfAll_74 ?_
    refine ⟨congrArg (fun z => some (Value.int z)) ?_, rfl⟩
    rfl
  · refine sj_tableIn C 75 dX4_numberOfAll_1 (by decide) (by decide) rfl rfl ?_
    refine sj_aload_n C 76 rfl dX4_numberOfAll_75 rfl rfl ?_
    refine sj_callVd C 79 rfl dX4_numberOfAll_76 cv_X4_125 rfl (ct_X4_tremblingSheets _ h hI) rfl rfl rfl ⟨_, _, kd_t, rfl, rfl, by decide⟩ ⟨rfl, rfl⟩ ?_
    refine sj_iret C hR rfl rfl dX4_numberOfAll_79 ?_
    refine ⟨congrArg (fun z => some (Value.int z)) ?_, rfl⟩
    rfl
  · refine sj_tableIn C 80 dX4_numberOfAll_1 (by decide) (by decide) rfl rfl ?_
    refine sj_aload_n C 81 rfl dX4_numberOfAll_80 rfl rfl ?_
    refine sj_getr C 84 rfl fd_X4_36 dX4_numberOfAll_81 kd_t rf_t_4 ?_
    refine sj_getI C 87 rfl fd_X4_128 dX4_numberOfAll_84 kd_o ?_
    refine sj_iret C hR rfl rfl dX4_numberOfAll_87 ?_
    refine ⟨congrArg (fun z => some (Value.int z)) ?_, rfl⟩
    exact hRo.2.1
  · refine sj_tableOut C 88 dX4_numberOfAll_1 (by decide) rfl ?_
    refine sj_aload_n C 89 rfl dX4_numberOfAll_88 rfl rfl ?_
    refine sj_callVd C 92 rfl dX4_numberOfAll_89 cv_X4_131 rfl (ct_X4_likePairs _ h hI) rfl rfl rfl ⟨_, _, kd_t, rfl, rfl, by decide⟩ ⟨rfl, rfl⟩ ?_
    refine sj_iret C hR rfl rfl dX4_numberOfAll_92 ?_
    refine ⟨congrArg (fun z => some (Value.int z)) ?_, rfl⟩
    rfl
set_option maxRecDepth 100000 in
set_option maxHeartbeats 150000 in
theorem ct_X4_comparison (l : Launch) {S : sj_St} {F : Nat → Prop} {D : Nat → Nat} {m : Nat → Int32} (h : sq_T S F D m) (hI : sj_inv m) {i e : Nat} (hi : i < (sj_tn (m 9))) (he : e < (sj_tn (m 9))) {w : Nat} (hw : w < 5) : sj_Ctr l mX4_comparison [.ref (D 0), .int (nI i), .int (nI e), .int (nI w)] S (sj_eq (some (.int (sj_cps m i e w))) S) := by
  refine sj_start ([some (.ref (D 0)), some (.int (nI i)), some (.int (nI e)), some (.int (nI w))]) (by decide +kernel) rfl rfl (fun X hX C hR => ?_)
  subst hX
  obtain ⟨⟨kd_t, rf_t_0, ⟨rf_t_1, kd_sh, il_sh⟩, ⟨rf_t_2, hag⟩, ⟨rf_t_4, hol⟩, ⟨rf_t_5, hse⟩, hinj⟩, ⟨h3, h6, h7⟩, hA, hE, hRo, hSh⟩ := id h
  have kd_ag := hag.1
  have kd_o := hol.1
  have kd_se := hse.1
  obtain ⟨h9, hn8⟩ := id hI.1
  have hv := sj_inv_oav hI
  refine sj_iload_n C 1 rfl dX4_comparison_0 rfl rfl ?_
  obtain rfl | rfl | rfl | rfl | rfl : w = 0 ∨ w = 1 ∨ w = 2 ∨ w = 3 ∨ w = 4 := by omega
  · refine sj_tableIn C 32 dX4_comparison_1 (by decide) (by decide) rfl rfl ?_
    refine sj_aload_n C 33 rfl dX4_comparison_32 rfl rfl ?_
    refine sj_iload_n C 34 rfl dX4_comparison_33 rfl rfl ?_
    refine sj_iload_n C 35 rfl dX4_comparison_34 rfl rfl ?_
    refine sj_iconstv C (0) 36 rfl dX4_comparison_35 rfl ?_
    refine sj_callVd C 39 rfl dX4_comparison_36 cv_X4_134 rfl (sq_lik0 _ h hI hi he) rfl rfl rfl ⟨_, _, kd_t, rfl, rfl, by decide⟩ ⟨rfl, rfl⟩ ?_
    refine sj_iret C hR rfl rfl dX4_comparison_39 ?_
    refine ⟨congrArg (fun z => some (Value.int z)) ?_, rfl⟩
    rfl
  · refine sj_tableIn C 40 dX4_comparison_1 (by decide) (by decide) rfl rfl ?_
    refine sj_aload_n C 41 rfl dX4_comparison_40 rfl rfl ?_
    refine sj_iload_n C 42 rfl dX4_comparison_41 rfl rfl ?_
    refine sj_iload_n C 43 rfl dX4_comparison_42 rfl rfl ?_
    refine sj_iconstv C (0) 44 rfl dX4_comparison_43 rfl ?_
    refine sj_callVd C 47 rfl dX4_comparison_44 cv_X4_138 rfl (sq_agr0 _ h hI hi he) rfl rfl rfl ⟨_, _, kd_t, rfl, rfl, by decide⟩ ⟨rfl, rfl⟩ ?_
    refine sj_iret C hR rfl rfl dX4_comparison_47 ?_
    refine ⟨congrArg (fun z => some (Value.int z)) ?_, rfl⟩
    rfl
  · refine sj_tableIn C 48 dX4_comparison_1 (by decide) (by decide) rfl rfl ?_
    refine sj_aload_n C 49 rfl dX4_comparison_48 rfl rfl ?_
    refine sj_getr C 52 rfl fd_X4_36 dX4_comparison_49 kd_t rf_t_4 ?_
    refine sj_iload_n C 53 rfl dX4_comparison_52 rfl rfl ?_
    refine sj_iload_n C 54 rfl dX4_comparison_53 rfl rfl ?_
    refine sj_iconstv C (-1) 55 rfl dX4_comparison_54 rfl ?_
    refine sj_callVd C 58 rfl dX4_comparison_55 cv_X4_141 rfl (sq_c_leads _ hol hv hRo hi he) rfl rfl rfl ⟨_, _, kd_o, rfl, rfl, by decide⟩ ⟨rfl, rfl⟩ ?_
    refine sj_if_eq C 65 61 rfl rfl dX4_comparison_58 (fun c_58 => ?_) (fun c_58 => ?_)
    · refine sj_iconstv C (0) 66 rfl dX4_comparison_65 rfl ?_
      refine sj_iret C hR rfl rfl dX4_comparison_66 ?_
      refine ⟨congrArg (fun z => some (Value.int z)) ?_, rfl⟩
      show _ = sj_bi (sj_a1 m i e)
      rw [sj_bi0.mp c_58]
      rfl
    · refine sj_iconstv C (1) 62 rfl dX4_comparison_61 rfl ?_
      refine sj_goto C 66 rfl dX4_comparison_62 ?_
      refine sj_iret C hR rfl rfl dX4_comparison_66 ?_
      refine ⟨congrArg (fun z => some (Value.int z)) ?_, rfl⟩
      show _ = sj_bi (sj_a1 m i e)
      rw [sj_bin.mp c_58]
      rfl
  · refine sj_tableIn C 67 dX4_comparison_1 (by decide) (by decide) rfl rfl ?_
    refine sj_aload_n C 68 rfl dX4_comparison_67 rfl rfl ?_
    refine sj_iload_n C 69 rfl dX4_comparison_68 rfl rfl ?_
    refine sj_iload_n C 70 rfl dX4_comparison_69 rfl rfl ?_
    refine sj_callVd C 73 rfl dX4_comparison_70 cv_X4_145 rfl (ct_X4_areOfOneHand _ h hI (i := i) (e := e) (by omega) (by omega)) rfl rfl rfl ⟨_, _, kd_t, rfl, rfl, by decide⟩ ⟨rfl, rfl⟩ ?_
    refine sj_if_eq C 80 76 rfl rfl dX4_comparison_73 (fun c_73 => ?_) (fun c_73 => ?_)
    · refine sj_iconstv C (0) 81 rfl dX4_comparison_80 rfl ?_
      refine sj_iret C hR rfl rfl dX4_comparison_81 ?_
      refine ⟨congrArg (fun z => some (Value.int z)) ?_, rfl⟩
      show _ = sj_bi (sj_a1 m i e)
      rw [sj_bi0.mp c_73]
      rfl
    · refine sj_iconstv C (1) 77 rfl dX4_comparison_76 rfl ?_
      refine sj_goto C 81 rfl dX4_comparison_77 ?_
      refine sj_iret C hR rfl rfl dX4_comparison_81 ?_
      refine ⟨congrArg (fun z => some (Value.int z)) ?_, rfl⟩
      show _ = sj_bi (sj_a1 m i e)
      rw [sj_bin.mp c_73]
      rfl
  · refine sj_tableOut C 82 dX4_comparison_1 (by decide) rfl ?_
    refine sj_aload_n C 83 rfl dX4_comparison_82 rfl rfl ?_
    refine sj_getr C 86 rfl fd_X4_36 dX4_comparison_83 kd_t rf_t_4 ?_
    refine sj_iload_n C 87 rfl dX4_comparison_86 rfl rfl ?_
    refine sj_iload_n C 88 rfl dX4_comparison_87 rfl rfl ?_
    refine sj_callVd C 91 rfl dX4_comparison_88 cv_X4_149 rfl (sq_c_kindOf _ hol hI hRo (i := i) (e := e) (by omega) (by omega)) rfl rfl rfl ⟨_, _, kd_o, rfl, rfl, by decide⟩ ⟨rfl, rfl⟩ ?_
    refine sj_iret C hR rfl rfl dX4_comparison_91 ?_
    refine ⟨congrArg (fun z => some (Value.int z)) ?_, rfl⟩
    rfl
set_option maxRecDepth 100000 in
set_option maxHeartbeats 250000 in
theorem ct_X4_reasonAgainst (l : Launch) {S : sj_St} {F : Nat → Prop} {D : Nat → Nat} {m : Nat → Int32} (h : sq_T S F D m) (hI : sj_inv m) (hu : sj_uc m) {i e : Nat} (hi : i < (sj_tn (m 9))) (he : e < (sj_tn (m 9))) (like : Bool) : sj_Ctr l mX4_reasonAgainst [.ref (D 0), .int (nI i), .int (nI e), .int (sj_bi like)] S (sj_eq (some (.int (sj_why m i e like))) S) := by
  refine sj_start ([some (.ref (D 0)), some (.int (nI i)), some (.int (nI e)), some (.int (sj_bi like))]) (by decide +kernel) rfl rfl (fun X hX C hR => ?_)
  subst hX
  obtain ⟨⟨kd_t, rf_t_0, ⟨rf_t_1, kd_sh, il_sh⟩, ⟨rf_t_2, hag⟩, ⟨rf_t_4, hol⟩, ⟨rf_t_5, hse⟩, hinj⟩, ⟨h3, h6, h7⟩, hA, hE, hRo, hSh⟩ := id h
  have kd_ag := hag.1
  have kd_o := hol.1
  have kd_se := hse.1
  obtain ⟨h9, hn8⟩ := id hI.1
  have hv := sj_inv_oav hI
  refine sj_iload_n C 1 rfl dX4_reasonAgainst_0 rfl rfl ?_
  refine sj_iload_n C 2 rfl dX4_reasonAgainst_1 rfl rfl ?_
  refine sj_icmp_ne C 7 5 rfl rfl dX4_reasonAgainst_2 (fun c_2 => ?_) (fun c_2 => ?_)
  · refine sj_aload_n C 8 rfl dX4_reasonAgainst_7 rfl rfl ?_
    refine sj_getr C 11 rfl fd_X4_36 dX4_reasonAgainst_8 kd_t rf_t_4 ?_
    refine sj_iload_n C 12 rfl dX4_reasonAgainst_11 rfl rfl ?_
    refine sj_iload_n C 13 rfl dX4_reasonAgainst_12 rfl rfl ?_
    refine sj_callVd C 16 rfl dX4_reasonAgainst_13 cv_X4_152 rfl (sq_c_placeOf _ hol hI hRo (i := i) (e := e) (by omega) (by omega)) rfl rfl rfl ⟨_, _, kd_o, rfl, rfl, by decide⟩ ⟨rfl, rfl⟩ ?_
    refine sj_iconstv C (-1) 17 rfl dX4_reasonAgainst_16 rfl ?_
    refine sj_icmp_eq C 22 20 rfl rfl dX4_reasonAgainst_17 (fun c_17 => ?_) (fun c_17 => ?_)
    · refine sj_iload_n C 23 rfl dX4_reasonAgainst_22 rfl rfl ?_
      refine sj_if_ne C 42 26 rfl rfl dX4_reasonAgainst_23 (fun c_23 => ?_) (fun c_23 => ?_)
      · refine sj_aload_n C 43 rfl dX4_reasonAgainst_42 rfl rfl ?_
        refine sj_iload_n C 44 rfl dX4_reasonAgainst_43 rfl rfl ?_
        refine sj_callVd C 47 rfl dX4_reasonAgainst_44 cv_X4_101 rfl (ct_X4_trembles _ h hI hi) rfl rfl rfl ⟨_, _, kd_t, rfl, rfl, by decide⟩ ⟨rfl, rfl⟩ ?_
        refine sj_if_ne C 58 50 rfl rfl dX4_reasonAgainst_47 (fun c_47 => ?_) (fun c_47 => ?_)
        · refine sj_iconstv C (3) 59 rfl dX4_reasonAgainst_58 rfl ?_
          refine sj_iret C hR rfl rfl dX4_reasonAgainst_59 ?_
          refine ⟨congrArg (fun z => some (Value.int z)) ?_, rfl⟩
          unfold sj_why
          rw [if_neg (show ¬ i = e from fun e9 => c_2 (by rw [e9])), if_neg (fun h8 => h8 c_17), if_neg (by rw [sj_bin.mp c_23]; decide), if_pos (show (sj_trm m i || sj_trm m e) = true by rw [sj_bin.mp c_47, Bool.true_or])]
        · refine sj_aload_n C 51 rfl dX4_reasonAgainst_50 rfl rfl ?_
          refine sj_iload_n C 52 rfl dX4_reasonAgainst_51 rfl rfl ?_
          refine sj_callVd C 55 rfl dX4_reasonAgainst_52 cv_X4_101 rfl (ct_X4_trembles _ h hI he) rfl rfl rfl ⟨_, _, kd_t, rfl, rfl, by decide⟩ ⟨rfl, rfl⟩ ?_
          refine sj_if_eq C 60 58 rfl rfl dX4_reasonAgainst_55 (fun c_55 => ?_) (fun c_55 => ?_)
          · refine sj_aload_n C 61 rfl dX4_reasonAgainst_60 rfl rfl ?_
            refine sj_iload_n C 62 rfl dX4_reasonAgainst_61 rfl rfl ?_
            refine sj_iload_n C 63 rfl dX4_reasonAgainst_62 rfl rfl ?_
            refine sj_iconstv C (0) 64 rfl dX4_reasonAgainst_63 rfl ?_
            refine sj_callVd C 67 rfl dX4_reasonAgainst_64 cv_X4_134 rfl (sq_lik0 _ h hI hi he) rfl rfl rfl ⟨_, _, kd_t, rfl, rfl, by decide⟩ ⟨rfl, rfl⟩ ?_
            refine sj_aload_n C 68 rfl dX4_reasonAgainst_67 rfl rfl ?_
            refine sj_getr C 71 rfl fd_X4_40 dX4_reasonAgainst_68 kd_t rf_t_5 ?_
            refine sj_bipush C (8) 73 rfl dX4_reasonAgainst_71 (by decide) ?_
            refine sj_callVd C 76 rfl dX4_reasonAgainst_73 cv_X4_79 rfl (ct_X2_at _ hse _) rfl rfl rfl ⟨_, _, kd_se, rfl, rfl, by decide⟩ ⟨rfl, rfl⟩ ?_
            rw [show sj_at 9 (sj_ia S (D 15)) 8 = m 8 from (sj_at_nI (j := 8) _ (by omega) (by omega)).trans (hE 8 (by omega))]
            refine sj_icmp_ge C 81 79 rfl rfl dX4_reasonAgainst_76 (fun c_76 => ?_) (fun c_76 => ?_)
            · refine sj_aload_n C 82 rfl dX4_reasonAgainst_81 rfl rfl ?_
              refine sj_getr C 85 rfl fd_X4_36 dX4_reasonAgainst_82 kd_t rf_t_4 ?_
              refine sj_iload_n C 86 rfl dX4_reasonAgainst_85 rfl rfl ?_
              refine sj_iload_n C 87 rfl dX4_reasonAgainst_86 rfl rfl ?_
              refine sj_callVd C 90 rfl dX4_reasonAgainst_87 cv_X4_155 rfl (sq_c_forbid _ hol hv hu hRo hi he) rfl rfl rfl ⟨_, _, kd_o, rfl, rfl, by decide⟩ ⟨rfl, rfl⟩ ?_
              refine sj_if_eq C 97 93 rfl rfl dX4_reasonAgainst_90 (fun c_90 => ?_) (fun c_90 => ?_)
              · refine sj_iconstv C (0) 98 rfl dX4_reasonAgainst_97 rfl ?_
                refine sj_iret C hR rfl rfl dX4_reasonAgainst_98 ?_
                refine ⟨congrArg (fun z => some (Value.int z)) ?_, rfl⟩
                unfold sj_why
                rw [if_neg (show ¬ i = e from fun e9 => c_2 (by rw [e9])), if_neg (fun h8 => h8 c_17), if_neg (by rw [sj_bin.mp c_23]; decide), if_neg (show ¬ (sj_trm m i || sj_trm m e) = true by rw [sj_bi0.mp c_47, sj_bi0.mp c_55]; decide), if_neg (sj_nlt.mpr c_76)]
                rw [sj_bi0.mp c_90]
                rfl
              · refine sj_iconstv C (5) 94 rfl dX4_reasonAgainst_93 rfl ?_
                refine sj_goto C 98 rfl dX4_reasonAgainst_94 ?_
                refine sj_iret C hR rfl rfl dX4_reasonAgainst_98 ?_
                refine ⟨congrArg (fun z => some (Value.int z)) ?_, rfl⟩
                unfold sj_why
                rw [if_neg (show ¬ i = e from fun e9 => c_2 (by rw [e9])), if_neg (fun h8 => h8 c_17), if_neg (by rw [sj_bin.mp c_23]; decide), if_neg (show ¬ (sj_trm m i || sj_trm m e) = true by rw [sj_bi0.mp c_47, sj_bi0.mp c_55]; decide), if_neg (sj_nlt.mpr c_76)]
                rw [sj_bin.mp c_90]
                rfl
            · refine sj_iconstv C (4) 80 rfl dX4_reasonAgainst_79 rfl ?_
              refine sj_iret C hR rfl rfl dX4_reasonAgainst_80 ?_
              refine ⟨congrArg (fun z => some (Value.int z)) ?_, rfl⟩
              unfold sj_why
              rw [if_neg (show ¬ i = e from fun e9 => c_2 (by rw [e9])), if_neg (fun h8 => h8 c_17), if_neg (by rw [sj_bin.mp c_23]; decide), if_neg (show ¬ (sj_trm m i || sj_trm m e) = true by rw [sj_bi0.mp c_47, sj_bi0.mp c_55]; decide), if_pos (sj_nle.mp c_76)]
          · refine sj_iconstv C (3) 59 rfl dX4_reasonAgainst_58 rfl ?_
            refine sj_iret C hR rfl rfl dX4_reasonAgainst_59 ?_
            refine ⟨congrArg (fun z => some (Value.int z)) ?_, rfl⟩
            unfold sj_why
            rw [if_neg (show ¬ i = e from fun e9 => c_2 (by rw [e9])), if_neg (fun h8 => h8 c_17), if_neg (by rw [sj_bin.mp c_23]; decide), if_pos (show (sj_trm m i || sj_trm m e) = true by rw [sj_bin.mp c_55, Bool.or_true])]
      · refine sj_aload_n C 27 rfl dX4_reasonAgainst_26 rfl rfl ?_
        refine sj_iload_n C 28 rfl dX4_reasonAgainst_27 rfl rfl ?_
        refine sj_iload_n C 29 rfl dX4_reasonAgainst_28 rfl rfl ?_
        refine sj_callVd C 32 rfl dX4_reasonAgainst_29 cv_X4_145 rfl (ct_X4_areOfOneHand _ h hI (i := i) (e := e) (by omega) (by omega)) rfl rfl rfl ⟨_, _, kd_t, rfl, rfl, by decide⟩ ⟨rfl, rfl⟩ ?_
        refine sj_if_eq C 40 35 rfl rfl dX4_reasonAgainst_32 (fun c_32 => ?_) (fun c_32 => ?_)
        · refine sj_iconstv C (0) 41 rfl dX4_reasonAgainst_40 rfl ?_
          refine sj_iret C hR rfl rfl dX4_reasonAgainst_41 ?_
          refine ⟨congrArg (fun z => some (Value.int z)) ?_, rfl⟩
          unfold sj_why
          rw [if_neg (show ¬ i = e from fun e9 => c_2 (by rw [e9])), if_neg (fun h8 => h8 c_17), if_pos (sj_bi0.mp c_23)]
          rw [sj_bi0.mp c_32]
          rfl
        · refine sj_bipush C (6) 37 rfl dX4_reasonAgainst_35 (by decide) ?_
          refine sj_goto C 41 rfl dX4_reasonAgainst_37 ?_
          refine sj_iret C hR rfl rfl dX4_reasonAgainst_41 ?_
          refine ⟨congrArg (fun z => some (Value.int z)) ?_, rfl⟩
          unfold sj_why
          rw [if_neg (show ¬ i = e from fun e9 => c_2 (by rw [e9])), if_neg (fun h8 => h8 c_17), if_pos (sj_bi0.mp c_23)]
          rw [sj_bin.mp c_32]
          rfl
    · refine sj_iconstv C (2) 21 rfl dX4_reasonAgainst_20 rfl ?_
      refine sj_iret C hR rfl rfl dX4_reasonAgainst_21 ?_
      refine ⟨congrArg (fun z => some (Value.int z)) ?_, rfl⟩
      unfold sj_why
      rw [if_neg (show ¬ i = e from fun e9 => c_2 (by rw [e9])), if_pos c_17]
  · refine sj_iconstv C (1) 6 rfl dX4_reasonAgainst_5 rfl ?_
    refine sj_iret C hR rfl rfl dX4_reasonAgainst_6 ?_
    refine ⟨congrArg (fun z => some (Value.int z)) ?_, rfl⟩
    unfold sj_why
    rw [if_pos ((nI_eq (by omega) (by omega)).mp c_2)]
