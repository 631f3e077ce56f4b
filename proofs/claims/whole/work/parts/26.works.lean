/-! THE REFERENCE: works -/
/-- why a part can't be done -/
def sj_wnp (m : Nat → Int32) (sg f1 f2 : Int32) : Int32 := if sg = 121 then 0 else if sj_isn m f1 = false ∨ (¬ sg = 100 ∧ sj_isn m f2 = false) then 7 else if sg = 100 then 0 else sj_why m (sj_tn f1) (sj_tn f2) (decide (sg = 108))
/-- a part that is done: the state behind it, and what it answers -/
def sj_dpt (m : Nat → Int32) (sg f1 f2 : Int32) : (Nat → Int32) × Int32 := if sg = 121 then (sj_pas m f1 (sj_tn (m 9)), sj_old m f1 (sj_tn (m 9))) else if sg = 100 then (sj_drp m (sj_tn f1), sj_drn m (sj_tn f1)) else (sj_sw m (sj_tn f1) (sj_tn f2) (decide (sg = 108)), sj_hds (sj_sw m (sj_tn f1) (sj_tn f2) (decide (sg = 108))))
theorem sj_wnp_0 {m : Nat → Int32} {sg f1 f2 : Int32} (h : sj_wnp m sg f1 f2 = 0) (hy : ¬ sg = 121) : sj_isn m f1 = true ∧ (¬ sg = 100 → sj_isn m f2 = true ∧ sj_why m (sj_tn f1) (sj_tn f2) (decide (sg = 108)) = 0) := by
  unfold sj_wnp at h
  rw [if_neg hy] at h
  by_cases h1 : sj_isn m f1 = false ∨ (¬ sg = 100 ∧ sj_isn m f2 = false)
  · rw [if_pos h1] at h
    exact absurd h (by decide)
  · rw [if_neg h1] at h
    refine ⟨?_, fun h2 => ⟨?_, ?_⟩⟩
    · cases h3 : sj_isn m f1 with
      | true => rfl
      | false => exact absurd (Or.inl h3) h1
    · cases h3 : sj_isn m f2 with
      | true => rfl
      | false => exact absurd (Or.inr ⟨h2, h3⟩) h1
    · rw [if_neg h2] at h
      exact h
theorem sj_isn_i {m : Nat → Int32} {v : Int32} (hI : sj_inv m) (h : sj_isn m v = true) : ∃ i, i < sj_tn (m 9) ∧ v = nI i := sj_isn_n hI.1.1 hI.1.2 h
theorem sj_inv_dpt {m : Nat → Int32} {sg f1 f2 : Int32} (hI : sj_inv m) (h : sj_wnp m sg f1 f2 = 0) (hy : sg = 121 → 0 ≤ f1 ∧ f1 ≤ 99) : sj_inv (sj_dpt m sg f1 f2).1 := by
  unfold sj_dpt
  have h8 := hI.1.2
  by_cases h1 : sg = 121
  · rw [if_pos h1]
    exact sj_inv_pas hI (hy h1) _ rfl
  · rw [if_neg h1]
    obtain ⟨h2, h3⟩ := sj_wnp_0 h h1
    obtain ⟨i, hi, rfl⟩ := sj_isn_i hI h2
    by_cases h4 : sg = 100
    · rw [if_pos h4, sj_tn_nI (by omega)]
      exact sj_inv_drp hI hi
    · rw [if_neg h4]
      obtain ⟨h5, h6⟩ := h3 h4
      obtain ⟨e, he, rfl⟩ := sj_isn_i hI h5
      rw [sj_tn_nI (by omega), sj_tn_nI (by omega)] at h6 ⊢
      exact sj_inv_sw hI hi he h6
set_option maxRecDepth 100000 in
set_option maxHeartbeats 2500000 in
theorem ct_X7_whyNotPart (l : Launch) {S : sj_St} {h : Nat} {b : Nat → Nat} {m : Nat → Int32} (hm : sj_mm S h b m) (hI : sj_inv m) : sj_Ctr l mX7_whyNotPart [.ref h] S (sj_scr (some (.int (sj_wnp m (sj_fi S h 10) (sj_fi S h 11) (sj_fi S h 12)))) S b) := by
  refine sj_start ([some (.ref h)]) (by decide +kernel) rfl rfl (fun X hX C hR => ?_)
  subst hX
  have hm0 := hm
  obtain ⟨hm', em⟩ := hm0
  subst em
  obtain ⟨kd_h, ⟨rf_h_1, kd_a1, il_a1⟩, ⟨rf_h_2, kd_a2, il_a2⟩, ⟨rf_h_3, kd_a3, il_a3⟩, ⟨rf_h_5, kd_a5, il_a5⟩, ⟨rf_h_7, kd_a7, il_a7⟩, ⟨rf_h_13, kd_a13, il_a13⟩, ⟨rf_h_15, kd_a15, il_a15⟩, hinj⟩ := hm'
  have hv := sj_inv_oav hI
  have hs := sj_inv_shs hI
  obtain ⟨⟨h9, hn8⟩, ⟨h10, hn28⟩, hoa⟩ := id hv
  refine sj_aload_n C 1 rfl dX7_whyNotPart_0 rfl rfl ?_
  refine sj_getI C 4 rfl fd_X7_179 dX7_whyNotPart_1 kd_h ?_
  refine sj_bipush C (121) 6 rfl dX7_whyNotPart_4 (by decide) ?_
  refine sj_icmp_ne C 11 9 rfl rfl dX7_whyNotPart_6 (fun c_6 => ?_) (fun c_6 => ?_)
  · refine sj_aload_n C 12 rfl dX7_whyNotPart_11 rfl rfl ?_
    refine sj_aload_n C 13 rfl dX7_whyNotPart_12 rfl rfl ?_
    refine sj_getI C 16 rfl fd_X7_182 dX7_whyNotPart_13 kd_h ?_
    refine sj_callVd C 19 rfl dX7_whyNotPart_16 cv_X7_142 rfl (ct_X7_isSheet _ hm _) rfl rfl rfl ⟨_, _, kd_h, rfl, rfl, by decide⟩ ⟨rfl, rfl⟩ ?_
    rw [show sj_bi (sj_wi (sj_fi S h 11) 0 ((sj_ia S (b 1)) 9 - 1)) = sj_bi (sj_isn (sj_ia S (b 1)) (sj_fi S h 11)) from rfl]
    refine sj_if_eq C 42 22 rfl rfl dX7_whyNotPart_19 (fun c_19 => ?_) (fun c_19 => ?_)
    · refine sj_bipush C (7) 44 rfl dX7_whyNotPart_42 (by decide) ?_
      refine sj_iret C hR rfl rfl dX7_whyNotPart_44 ?_
      have e8 : sj_wnp (sj_ia S (b 1)) (sj_fi S h 10) (sj_fi S h 11) (sj_fi S h 12) = 7 := by
        unfold sj_wnp
        rw [if_neg c_6, if_pos (Or.inl (sj_bi0.mp c_19))]
      rw [e8]
      exact sj_scr_id
    · refine sj_aload_n C 23 rfl dX7_whyNotPart_22 rfl rfl ?_
      refine sj_getI C 26 rfl fd_X7_179 dX7_whyNotPart_23 kd_h ?_
      refine sj_bipush C (100) 28 rfl dX7_whyNotPart_26 (by decide) ?_
      refine sj_icmp_eq C 45 31 rfl rfl dX7_whyNotPart_28 (fun c_28 => ?_) (fun c_28 => ?_)
      · refine sj_aload_n C 46 rfl dX7_whyNotPart_45 rfl rfl ?_
        refine sj_getI C 49 rfl fd_X7_179 dX7_whyNotPart_46 kd_h ?_
        refine sj_bipush C (100) 51 rfl dX7_whyNotPart_49 (by decide) ?_
        refine sj_icmp_ne C 58 54 rfl rfl dX7_whyNotPart_51 (fun c_51 => ?_) (fun c_51 => ?_)
        · exact absurd c_28 c_51
        · skip
          refine sj_iconstv C (0) 55 rfl dX7_whyNotPart_54 rfl ?_
          refine sj_goto C 84 rfl dX7_whyNotPart_55 ?_
          refine sj_iret C hR rfl rfl dX7_whyNotPart_84 ?_
          have e8 : sj_wnp (sj_ia S (b 1)) (sj_fi S h 10) (sj_fi S h 11) (sj_fi S h 12) = 0 := by
            unfold sj_wnp
            rw [if_neg c_6, if_neg (fun h8 => h8.elim (fun h7 => c_19 (sj_bi0.mpr h7)) (fun h7 => h7.1 c_28)), if_pos c_51]
          rw [e8]
          exact sj_scr_id
      · refine sj_aload_n C 32 rfl dX7_whyNotPart_31 rfl rfl ?_
        refine sj_aload_n C 33 rfl dX7_whyNotPart_32 rfl rfl ?_
        refine sj_getI C 36 rfl fd_X7_185 dX7_whyNotPart_33 kd_h ?_
        refine sj_callVd C 39 rfl dX7_whyNotPart_36 cv_X7_142 rfl (ct_X7_isSheet _ hm _) rfl rfl rfl ⟨_, _, kd_h, rfl, rfl, by decide⟩ ⟨rfl, rfl⟩ ?_
        rw [show sj_bi (sj_wi (sj_fi S h 12) 0 ((sj_ia S (b 1)) 9 - 1)) = sj_bi (sj_isn (sj_ia S (b 1)) (sj_fi S h 12)) from rfl]
        refine sj_if_ne C 45 42 rfl rfl dX7_whyNotPart_39 (fun c_39 => ?_) (fun c_39 => ?_)
        · refine sj_aload_n C 46 rfl dX7_whyNotPart_45 rfl rfl ?_
          refine sj_getI C 49 rfl fd_X7_179 dX7_whyNotPart_46 kd_h ?_
          refine sj_bipush C (100) 51 rfl dX7_whyNotPart_49 (by decide) ?_
          refine sj_icmp_ne C 58 54 rfl rfl dX7_whyNotPart_51 (fun c_51 => ?_) (fun c_51 => ?_)
          · obtain ⟨i, hi9, e11⟩ := sj_isn_n h9 hn8 (sj_bin.mp c_19)
            obtain ⟨e, he9, e12⟩ := sj_isn_n h9 hn8 (sj_bin.mp c_39)
            refine sj_aload_n C 59 rfl dX7_whyNotPart_58 rfl rfl ?_
            refine sj_aload_n C 60 rfl dX7_whyNotPart_59 rfl rfl ?_
            refine sj_getI C 63 rfl fd_X7_182 dX7_whyNotPart_60 kd_h ?_
            refine sj_aload_n C 64 rfl dX7_whyNotPart_63 rfl rfl ?_
            refine sj_getI C 67 rfl fd_X7_185 dX7_whyNotPart_64 kd_h ?_
            refine sj_aload_n C 68 rfl dX7_whyNotPart_67 rfl rfl ?_
            refine sj_getI C 71 rfl fd_X7_179 dX7_whyNotPart_68 kd_h ?_
            refine sj_bipush C (108) 73 rfl dX7_whyNotPart_71 (by decide) ?_
            refine sj_icmp_ne C 80 76 rfl rfl dX7_whyNotPart_73 (fun c_73 => ?_) (fun c_73 => ?_)
            · refine sj_iconstv C (0) 81 rfl dX7_whyNotPart_80 rfl ?_
              rw [e11, e12]
              refine sj_callVp C 84 rfl dX7_whyNotPart_81 cv_X7_154 rfl (ct_X7_whyNotSworn _ hm hv i e (hs i hi9) (hs e he9) false) rfl rfl rfl ⟨_, _, kd_h, rfl, rfl, by decide⟩ ⟨rfl, rfl⟩ (fun v_81 S_81 hp_81 => ?_)
              obtain ⟨rfl, g_81, rfl⟩ := hp_81
              refine sj_iret C hR rfl rfl dX7_whyNotPart_84 ?_
              have e8 : sj_wnp (sj_ia S (b 1)) (sj_fi S h 10) (sj_fi S h 11) (sj_fi S h 12) = sj_why (sj_ia S (b 1)) i e false := by
                unfold sj_wnp
                rw [if_neg c_6, if_neg (fun h8 => h8.elim (fun h7 => c_19 (sj_bi0.mpr h7)) (fun h7 => c_39 (sj_bi0.mpr h7.2))), if_neg c_51, e11, e12, sj_tn_nI (by omega), sj_tn_nI (by omega), decide_eq_false c_73]
              rw [e8]
              exact ⟨rfl, g_81, rfl⟩
            · refine sj_iconstv C (1) 77 rfl dX7_whyNotPart_76 rfl ?_
              refine sj_goto C 81 rfl dX7_whyNotPart_77 ?_
              rw [e11, e12]
              refine sj_callVp C 84 rfl dX7_whyNotPart_81 cv_X7_154 rfl (ct_X7_whyNotSworn _ hm hv i e (hs i hi9) (hs e he9) true) rfl rfl rfl ⟨_, _, kd_h, rfl, rfl, by decide⟩ ⟨rfl, rfl⟩ (fun v_81 S_81 hp_81 => ?_)
              obtain ⟨rfl, g_81, rfl⟩ := hp_81
              refine sj_iret C hR rfl rfl dX7_whyNotPart_84 ?_
              have e8 : sj_wnp (sj_ia S (b 1)) (sj_fi S h 10) (sj_fi S h 11) (sj_fi S h 12) = sj_why (sj_ia S (b 1)) i e true := by
                unfold sj_wnp
                rw [if_neg c_6, if_neg (fun h8 => h8.elim (fun h7 => c_19 (sj_bi0.mpr h7)) (fun h7 => c_39 (sj_bi0.mpr h7.2))), if_neg c_51, e11, e12, sj_tn_nI (by omega), sj_tn_nI (by omega), decide_eq_true c_73]
              rw [e8]
              exact ⟨rfl, g_81, rfl⟩
          · exact absurd c_51 c_28
        · refine sj_bipush C (7) 44 rfl dX7_whyNotPart_42 (by decide) ?_
          refine sj_iret C hR rfl rfl dX7_whyNotPart_44 ?_
          have e8 : sj_wnp (sj_ia S (b 1)) (sj_fi S h 10) (sj_fi S h 11) (sj_fi S h 12) = 7 := by
            unfold sj_wnp
            rw [if_neg c_6, if_pos (Or.inr ⟨c_28, sj_bi0.mp c_39⟩)]
          rw [e8]
          exact sj_scr_id
  · refine sj_iconstv C (0) 10 rfl dX7_whyNotPart_9 rfl ?_
    refine sj_iret C hR rfl rfl dX7_whyNotPart_10 ?_
    have e8 : sj_wnp (sj_ia S (b 1)) (sj_fi S h 10) (sj_fi S h 11) (sj_fi S h 12) = 0 := by
      unfold sj_wnp
      exact if_pos c_6
    rw [e8]
    exact sj_scr_id
set_option maxRecDepth 100000 in
set_option maxHeartbeats 2500000 in
theorem ct_X7_doPart (l : Launch) {S : sj_St} {h : Nat} {b : Nat → Nat} {m : Nat → Int32} (hm : sj_mm S h b m) (hI : sj_inv m) (hw : sj_wnp m (sj_fi S h 10) (sj_fi S h 11) (sj_fi S h 12) = 0) : sj_Ctr l mX7_doPart [.ref h] S (fun v T => v = none ∧ ∃ g, T = sj_wFi (sj_sIa (sj_sIa S (b 1) (sj_dpt m (sj_fi S h 10) (sj_fi S h 11) (sj_fi S h 12)).1) (b 15) g) h 11 (sj_dpt m (sj_fi S h 10) (sj_fi S h 11) (sj_fi S h 12)).2) := by
  refine sj_start ([some (.ref h)]) (by decide +kernel) rfl rfl (fun X hX C hR => ?_)
  subst hX
  have hm0 := hm
  obtain ⟨hm', em⟩ := hm0
  subst em
  obtain ⟨kd_h, ⟨rf_h_1, kd_a1, il_a1⟩, ⟨rf_h_2, kd_a2, il_a2⟩, ⟨rf_h_3, kd_a3, il_a3⟩, ⟨rf_h_5, kd_a5, il_a5⟩, ⟨rf_h_7, kd_a7, il_a7⟩, ⟨rf_h_13, kd_a13, il_a13⟩, ⟨rf_h_15, kd_a15, il_a15⟩, hinj⟩ := hm'
  have hv := sj_inv_oav hI
  have hs := sj_inv_shs hI
  obtain ⟨⟨h9, hn8⟩, ⟨h10, hn28⟩, hoa⟩ := id hv
  refine sj_aload_n C 1 rfl dX7_doPart_0 rfl rfl ?_
  refine sj_getI C 4 rfl fd_X7_179 dX7_doPart_1 kd_h ?_
  refine sj_bipush C (121) 6 rfl dX7_doPart_4 (by decide) ?_
  refine sj_icmp_ne C 24 9 rfl rfl dX7_doPart_6 (fun c_6 => ?_) (fun c_6 => ?_)
  · obtain ⟨h2, h3⟩ := sj_wnp_0 hw c_6
    obtain ⟨i, hi9, e11⟩ := sj_isn_i hI h2
    refine sj_aload_n C 25 rfl dX7_doPart_24 rfl rfl ?_
    refine sj_getI C 28 rfl fd_X7_179 dX7_doPart_25 kd_h ?_
    refine sj_bipush C (100) 30 rfl dX7_doPart_28 (by decide) ?_
    refine sj_icmp_ne C 48 33 rfl rfl dX7_doPart_30 (fun c_30 => ?_) (fun c_30 => ?_)
    · obtain ⟨h5, h6⟩ := h3 c_30
      obtain ⟨e, he9, e12⟩ := sj_isn_i hI h5
      rw [e11, e12, sj_tn_nI (by omega), sj_tn_nI (by omega)] at h6
      refine sj_aload_n C 49 rfl dX7_doPart_48 rfl rfl ?_
      refine sj_aload_n C 50 rfl dX7_doPart_49 rfl rfl ?_
      refine sj_aload_n C 51 rfl dX7_doPart_50 rfl rfl ?_
      refine sj_getI C 54 rfl fd_X7_182 dX7_doPart_51 kd_h ?_
      refine sj_aload_n C 55 rfl dX7_doPart_54 rfl rfl ?_
      refine sj_getI C 58 rfl fd_X7_185 dX7_doPart_55 kd_h ?_
      refine sj_aload_n C 59 rfl dX7_doPart_58 rfl rfl ?_
      refine sj_getI C 62 rfl fd_X7_179 dX7_doPart_59 kd_h ?_
      refine sj_bipush C (108) 64 rfl dX7_doPart_62 (by decide) ?_
      refine sj_icmp_ne C 71 67 rfl rfl dX7_doPart_64 (fun c_64 => ?_) (fun c_64 => ?_)
      · refine sj_iconstv C (0) 72 rfl dX7_doPart_71 rfl ?_
        have hw9 : sj_why (sj_ia S (b 1)) i e false = 0 := by
          have h7 := h6
          rw [decide_eq_false c_64] at h7
          exact h7
        rw [e11, e12]
        refine sj_callVp C 75 rfl dX7_doPart_72 cv_X7_158 rfl (ct_X7_swears _ hm i e false h10 (sj_sw_28 hI hi9 he9 hw9) (sj_inv_oav (sj_inv_sw hI hi9 he9 hw9))) rfl rfl rfl ⟨_, _, kd_h, rfl, rfl, by decide⟩ ⟨rfl, rfl⟩ (fun v_72 S_72 hp_72 => ?_)
        obtain ⟨rfl, g_72, rfl⟩ := hp_72
        refine sj_putI C 78 rfl fd_X7_182 dX7_doPart_75 rfl rfl kd_h ?_
        refine sj_vret C hR rfl rfl dX7_doPart_78 ?_
        have e8 : (sj_dpt (sj_ia S (b 1)) (sj_fi S h 10) (sj_fi S h 11) (sj_fi S h 12)) = (sj_sw (sj_ia S (b 1)) i e false, sj_hds (sj_sw (sj_ia S (b 1)) i e false)) := by
          unfold sj_dpt
          rw [if_neg c_6, if_neg c_30, e11, e12, sj_tn_nI (by omega), sj_tn_nI (by omega), decide_eq_false c_64]
        rw [e8]
        exact ⟨rfl, g_72, rfl⟩
      · refine sj_iconstv C (1) 68 rfl dX7_doPart_67 rfl ?_
        refine sj_goto C 72 rfl dX7_doPart_68 ?_
        have hw9 : sj_why (sj_ia S (b 1)) i e true = 0 := by
          have h7 := h6
          rw [decide_eq_true c_64] at h7
          exact h7
        rw [e11, e12]
        refine sj_callVp C 75 rfl dX7_doPart_72 cv_X7_158 rfl (ct_X7_swears _ hm i e true h10 (sj_sw_28 hI hi9 he9 hw9) (sj_inv_oav (sj_inv_sw hI hi9 he9 hw9))) rfl rfl rfl ⟨_, _, kd_h, rfl, rfl, by decide⟩ ⟨rfl, rfl⟩ (fun v_72 S_72 hp_72 => ?_)
        obtain ⟨rfl, g_72, rfl⟩ := hp_72
        refine sj_putI C 78 rfl fd_X7_182 dX7_doPart_75 rfl rfl kd_h ?_
        refine sj_vret C hR rfl rfl dX7_doPart_78 ?_
        have e8 : (sj_dpt (sj_ia S (b 1)) (sj_fi S h 10) (sj_fi S h 11) (sj_fi S h 12)) = (sj_sw (sj_ia S (b 1)) i e true, sj_hds (sj_sw (sj_ia S (b 1)) i e true)) := by
          unfold sj_dpt
          rw [if_neg c_6, if_neg c_30, e11, e12, sj_tn_nI (by omega), sj_tn_nI (by omega), decide_eq_true c_64]
        rw [e8]
        exact ⟨rfl, g_72, rfl⟩
    · refine sj_aload_n C 34 rfl dX7_doPart_33 rfl rfl ?_
      refine sj_aload_n C 35 rfl dX7_doPart_34 rfl rfl ?_
      refine sj_aload_n C 36 rfl dX7_doPart_35 rfl rfl ?_
      refine sj_getI C 39 rfl fd_X7_182 dX7_doPart_36 kd_h ?_
      rw [e11]
      refine sj_callVd C 42 rfl dX7_doPart_39 cv_X7_145 rfl (ct_X7_drops _ hm i h9 hi9 hn8 h10 hn28) rfl rfl rfl ⟨_, _, kd_h, rfl, rfl, by decide⟩ ⟨rfl, rfl⟩ ?_
      refine sj_putI C 45 rfl fd_X7_182 dX7_doPart_42 rfl rfl kd_h ?_
      refine sj_goto C 78 rfl dX7_doPart_45 ?_
      refine sj_vret C hR rfl rfl dX7_doPart_78 ?_
      have e8 : (sj_dpt (sj_ia S (b 1)) (sj_fi S h 10) (sj_fi S h 11) (sj_fi S h 12)) = (sj_drp (sj_ia S (b 1)) i, sj_drn (sj_ia S (b 1)) i) := by
        unfold sj_dpt
        rw [if_neg c_6, if_pos c_30, e11, sj_tn_nI (by omega)]
      rw [e8]
      exact ⟨rfl, sj_ia S (b 15), congrArg (fun T => sj_wFi T h 11 _) (by rw [show sj_ia S (b 15) = sj_ia (sj_sIa S (b 1) (sj_drp (sj_ia S (b 1)) i)) (b 15) from (sj_ia_sIa_ne S _ (sj_mo_ne hm.1 (i := 15) (j := 1) (by omega) (by omega) (by omega))).symm, sj_sIa_id])⟩
  · refine sj_aload_n C 10 rfl dX7_doPart_9 rfl rfl ?_
    refine sj_aload_n C 11 rfl dX7_doPart_10 rfl rfl ?_
    refine sj_aload_n C 12 rfl dX7_doPart_11 rfl rfl ?_
    refine sj_getI C 15 rfl fd_X7_182 dX7_doPart_12 kd_h ?_
    refine sj_callVd C 18 rfl dX7_doPart_15 cv_X7_148 rfl (ct_X7_passes _ hm hv _) rfl rfl rfl ⟨_, _, kd_h, rfl, rfl, by decide⟩ ⟨rfl, rfl⟩ ?_
    refine sj_putI C 21 rfl fd_X7_182 dX7_doPart_18 rfl rfl kd_h ?_
    refine sj_goto C 78 rfl dX7_doPart_21 ?_
    refine sj_vret C hR rfl rfl dX7_doPart_78 ?_
    have e8 : (sj_dpt (sj_ia S (b 1)) (sj_fi S h 10) (sj_fi S h 11) (sj_fi S h 12)) = (sj_pas (sj_ia S (b 1)) (sj_fi S h 11) (sj_tn ((sj_ia S (b 1)) 9)), sj_old (sj_ia S (b 1)) (sj_fi S h 11) (sj_tn ((sj_ia S (b 1)) 9))) := if_pos c_6
    rw [e8]
    exact ⟨rfl, sj_ia S (b 15), congrArg (fun T => sj_wFi T h 11 _) (by rw [show sj_ia S (b 15) = sj_ia (sj_sIa S (b 1) (sj_pas (sj_ia S (b 1)) (sj_fi S h 11) (sj_tn ((sj_ia S (b 1)) 9)))) (b 15) from (sj_ia_sIa_ne S _ (sj_mo_ne hm.1 (i := 15) (j := 1) (by omega) (by omega) (by omega))).symm, sj_sIa_id])⟩
