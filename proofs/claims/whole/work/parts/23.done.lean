/-! THE REFERENCE: what is done from outside -/
/-- behind saving: nothing thrown, one state more is saved -/
def sj_svS (S : sj_St) (h : Nat) (b : Nat → Nat) (q : Nat) (m : Nat → Int32) : sj_St := sj_wFi (sj_sIa (sj_wFi S h 0 0) (b 3) (sj_sv q m (sj_ia S (b 3)))) h 4 (nI (sj_qn q + 1))
theorem sj_svS_mm {S : sj_St} {h : Nat} {b : Nat → Nat} {m : Nat → Int32} (hm : sj_mm S h b m) (q : Nat) : sj_mm (sj_svS S h b q m) h b m := ⟨hm.1, (sj_ia_sIa_ne (sj_wFi S h 0 0) _ (sj_mo_ne hm.1 (i := 1) (j := 3) (by omega) (by omega) (by omega))).trans hm.2⟩
theorem sj_isn_t {m : Nat → Int32} {i n : Nat} (h9 : m 9 = nI n) (hn : n ≤ 8) (hi : i < n) : sj_isn m (nI i) = true := by
  unfold sj_isn
  rw [h9, show nI n - 1 = nI (n - 1) from sj_nsub (b := 1) (by omega), sj_wi_n (by omega) (by omega)]
  exact decide_eq_true (by omega)
def sj_mst (s : Int32) : Int32 := if s < 6 then 50 else if s = 6 then 99 else if s = 7 then 9 else 6
set_option maxRecDepth 100000 in
set_option maxHeartbeats 400000 in
theorem ct_X7_clearBuffer (l : Launch) {S : sj_St} {h : Nat} {b : Nat → Nat} {m : Nat → Int32} (hm : sj_mm S h b m)  : sj_Ctr l mX7_clearBuffer [.ref h] S (sj_eq (some (.int (sj_fi S h 8))) (sj_wFi (sj_wFi S h 0 0) h 8 0)) := by
  refine sj_start ([some (.ref h), none]) (by decide +kernel) rfl rfl (fun X hX C hR => ?_)
  subst hX
  have hm0 := hm
  obtain ⟨hm', em⟩ := hm0
  subst em
  obtain ⟨kd_h, ⟨rf_h_1, kd_a1, il_a1⟩, ⟨rf_h_2, kd_a2, il_a2⟩, ⟨rf_h_3, kd_a3, il_a3⟩, ⟨rf_h_5, kd_a5, il_a5⟩, ⟨rf_h_7, kd_a7, il_a7⟩, ⟨rf_h_13, kd_a13, il_a13⟩, ⟨rf_h_15, kd_a15, il_a15⟩, hinj⟩ := hm'
  have hmz := sj_mm_f hm h 0 0
  refine sj_aload_n C 1 rfl dX7_clearBuffer_0 rfl rfl ?_
  refine sj_iconstv C (0) 2 rfl dX7_clearBuffer_1 rfl ?_
  refine sj_putI C 5 rfl fd_X7_31 dX7_clearBuffer_2 rfl rfl kd_h ?_
  refine sj_aload_n C 6 rfl dX7_clearBuffer_5 rfl rfl ?_
  refine sj_getI C 9 rfl fd_X7_139 dX7_clearBuffer_6 kd_h ?_
  refine sj_istore_n_1 C 10 rfl dX7_clearBuffer_9 rfl rfl ?_
  refine sj_aload_n C 11 rfl dX7_clearBuffer_10 rfl rfl ?_
  refine sj_iconstv C (0) 12 rfl dX7_clearBuffer_11 rfl ?_
  refine sj_putI C 15 rfl fd_X7_139 dX7_clearBuffer_12 rfl rfl kd_h ?_
  refine sj_iload_n C 16 rfl dX7_clearBuffer_15 rfl rfl ?_
  refine sj_iret C hR rfl rfl dX7_clearBuffer_16 ?_
  exact ⟨congrArg (fun z => some (Value.int z)) (sj_fi_wFi_k S h _ (by omega)), rfl⟩
set_option maxRecDepth 100000 in
set_option maxHeartbeats 400000 in
theorem ct_X7_mostOf (l : Launch) (S : sj_St) (s : Int32) : sj_Ctr l mX7_mostOf [.int s] S (sj_eq (some (.int (sj_mst s))) S) := by
  refine sj_start ([some (.int s)]) (by decide +kernel) rfl rfl (fun X hX C hR => ?_)
  subst hX
  refine sj_iload_n C 1 rfl dX7_mostOf_0 rfl rfl ?_
  refine sj_bipush C (6) 3 rfl dX7_mostOf_1 (by decide) ?_
  refine sj_icmp_ge C 11 6 rfl rfl dX7_mostOf_3 (fun c_3 => ?_) (fun c_3 => ?_)
  · refine sj_iload_n C 12 rfl dX7_mostOf_11 rfl rfl ?_
    refine sj_bipush C (6) 14 rfl dX7_mostOf_12 (by decide) ?_
    refine sj_icmp_ne C 22 17 rfl rfl dX7_mostOf_14 (fun c_14 => ?_) (fun c_14 => ?_)
    · refine sj_iload_n C 23 rfl dX7_mostOf_22 rfl rfl ?_
      refine sj_bipush C (7) 25 rfl dX7_mostOf_23 (by decide) ?_
      refine sj_icmp_ne C 33 28 rfl rfl dX7_mostOf_25 (fun c_25 => ?_) (fun c_25 => ?_)
      · refine sj_bipush C (6) 35 rfl dX7_mostOf_33 (by decide) ?_
        refine sj_iret C hR rfl rfl dX7_mostOf_35 ?_
        refine ⟨congrArg (fun z => some (Value.int z)) ?_, rfl⟩
        unfold sj_mst
        rw [if_neg (sj_nlt.mpr c_3), if_neg c_14, if_neg c_25]
      · refine sj_bipush C (9) 30 rfl dX7_mostOf_28 (by decide) ?_
        refine sj_goto C 35 rfl dX7_mostOf_30 ?_
        refine sj_iret C hR rfl rfl dX7_mostOf_35 ?_
        refine ⟨congrArg (fun z => some (Value.int z)) ?_, rfl⟩
        unfold sj_mst
        rw [if_neg (sj_nlt.mpr c_3), if_neg c_14, if_pos c_25]
    · refine sj_bipush C (99) 19 rfl dX7_mostOf_17 (by decide) ?_
      refine sj_goto C 35 rfl dX7_mostOf_19 ?_
      refine sj_iret C hR rfl rfl dX7_mostOf_35 ?_
      refine ⟨congrArg (fun z => some (Value.int z)) ?_, rfl⟩
      unfold sj_mst
      rw [if_neg (sj_nlt.mpr c_3), if_pos c_14]
  · refine sj_bipush C (50) 8 rfl dX7_mostOf_6 (by decide) ?_
    refine sj_goto C 35 rfl dX7_mostOf_8 ?_
    refine sj_iret C hR rfl rfl dX7_mostOf_35 ?_
    refine ⟨congrArg (fun z => some (Value.int z)) ?_, rfl⟩
    unfold sj_mst
    rw [if_pos (sj_nle.mp c_3)]
set_option maxRecDepth 100000 in
set_option maxHeartbeats 400000 in
theorem ct_X7_append_1 (l : Launch) {S : sj_St} {h : Nat} {b : Nat → Nat} {m : Nat → Int32} (hm : sj_mm S h b m) (c : Int32) (hb : sj_wi c 33 126 = false) : sj_Ctr l mX7_append [.ref h, .int c] S (sj_eq (some (.int 0)) (sj_wFi S h 0 1)) := by
  refine sj_start ([some (.ref h), some (.int c)]) (by decide +kernel) rfl rfl (fun X hX C hR => ?_)
  subst hX
  have hm0 := hm
  obtain ⟨hm', em⟩ := hm0
  subst em
  obtain ⟨kd_h, ⟨rf_h_1, kd_a1, il_a1⟩, ⟨rf_h_2, kd_a2, il_a2⟩, ⟨rf_h_3, kd_a3, il_a3⟩, ⟨rf_h_5, kd_a5, il_a5⟩, ⟨rf_h_7, kd_a7, il_a7⟩, ⟨rf_h_13, kd_a13, il_a13⟩, ⟨rf_h_15, kd_a15, il_a15⟩, hinj⟩ := hm'
  have hmz := sj_mm_f hm h 0 0
  refine sj_aload_n C 1 rfl dX7_append_0 rfl rfl ?_
  refine sj_iconstv C (0) 2 rfl dX7_append_1 rfl ?_
  refine sj_putI C 5 rfl fd_X7_31 dX7_append_2 rfl rfl kd_h ?_
  refine sj_iload_n C 6 rfl dX7_append_5 rfl rfl ?_
  refine sj_bipush C (33) 8 rfl dX7_append_6 (by decide) ?_
  refine sj_bipush C (126) 10 rfl dX7_append_8 (by decide) ?_
  refine sj_callSd C 13 rfl dX7_append_10 cv_X7_35 rfl (ct_X7_within _ _ _ _ _) rfl rfl rfl ⟨rfl, rfl⟩ ?_
  refine sj_if_ne C 22 16 rfl rfl dX7_append_13 (fun c_13 => ?_) (fun c_13 => ?_)
  · exact absurd (by rw [hb]; rfl) c_13
  · refine sj_aload_n C 17 rfl dX7_append_16 rfl rfl ?_
    refine sj_iconstv C (1) 18 rfl dX7_append_17 rfl ?_
    refine sj_callVd C 21 rfl dX7_append_18 cv_X7_46 rfl (ct_X7_fails _ hmz 1) rfl rfl rfl ⟨_, _, kd_h, rfl, rfl, by decide⟩ ⟨rfl, rfl⟩ ?_
    rw [sj_wFi_wFi]
    refine sj_iret C hR rfl rfl dX7_append_21 ?_
    exact ⟨rfl, rfl⟩
set_option maxRecDepth 100000 in
set_option maxHeartbeats 400000 in
theorem ct_X7_append_2 (l : Launch) {S : sj_St} {h : Nat} {b : Nat → Nat} {m : Nat → Int32} (hm : sj_mm S h b m) (c : Int32) (ht : sj_wi c 33 126 = true) (h8 : sj_fi S h 8 = 60) : sj_Ctr l mX7_append [.ref h, .int c] S (sj_eq (some (.int 0)) (sj_wFi S h 0 2)) := by
  refine sj_start ([some (.ref h), some (.int c)]) (by decide +kernel) rfl rfl (fun X hX C hR => ?_)
  subst hX
  have hm0 := hm
  obtain ⟨hm', em⟩ := hm0
  subst em
  obtain ⟨kd_h, ⟨rf_h_1, kd_a1, il_a1⟩, ⟨rf_h_2, kd_a2, il_a2⟩, ⟨rf_h_3, kd_a3, il_a3⟩, ⟨rf_h_5, kd_a5, il_a5⟩, ⟨rf_h_7, kd_a7, il_a7⟩, ⟨rf_h_13, kd_a13, il_a13⟩, ⟨rf_h_15, kd_a15, il_a15⟩, hinj⟩ := hm'
  have hmz := sj_mm_f hm h 0 0
  refine sj_aload_n C 1 rfl dX7_append_0 rfl rfl ?_
  refine sj_iconstv C (0) 2 rfl dX7_append_1 rfl ?_
  refine sj_putI C 5 rfl fd_X7_31 dX7_append_2 rfl rfl kd_h ?_
  refine sj_iload_n C 6 rfl dX7_append_5 rfl rfl ?_
  refine sj_bipush C (33) 8 rfl dX7_append_6 (by decide) ?_
  refine sj_bipush C (126) 10 rfl dX7_append_8 (by decide) ?_
  refine sj_callSd C 13 rfl dX7_append_10 cv_X7_35 rfl (ct_X7_within _ _ _ _ _) rfl rfl rfl ⟨rfl, rfl⟩ ?_
  refine sj_if_ne C 22 16 rfl rfl dX7_append_13 (fun c_13 => ?_) (fun c_13 => ?_)
  · refine sj_aload_n C 23 rfl dX7_append_22 rfl rfl ?_
    refine sj_getI C 26 rfl fd_X7_139 dX7_append_23 kd_h ?_
    refine sj_bipush C (60) 28 rfl dX7_append_26 (by decide) ?_
    rw [show sj_fi (sj_wFi S h 0 0) h 8 = sj_fi S h 8 from sj_fi_wFi_k S h _ (by omega)]
    refine sj_icmp_ne C 37 31 rfl rfl dX7_append_28 (fun c_28 => ?_) (fun c_28 => ?_)
    · exact absurd h8 c_28
    · refine sj_aload_n C 32 rfl dX7_append_31 rfl rfl ?_
      refine sj_iconstv C (2) 33 rfl dX7_append_32 rfl ?_
      refine sj_callVd C 36 rfl dX7_append_33 cv_X7_46 rfl (ct_X7_fails _ hmz 2) rfl rfl rfl ⟨_, _, kd_h, rfl, rfl, by decide⟩ ⟨rfl, rfl⟩ ?_
      rw [sj_wFi_wFi]
      refine sj_iret C hR rfl rfl dX7_append_36 ?_
      exact ⟨rfl, rfl⟩
  · exact absurd c_13 (by rw [ht]; decide)
set_option maxRecDepth 100000 in
set_option maxHeartbeats 400000 in
theorem ct_X7_append_0 (l : Launch) {S : sj_St} {h : Nat} {b : Nat → Nat} {m : Nat → Int32} (hm : sj_mm S h b m) (c : Int32) (ht : sj_wi c 33 126 = true) (n : Nat) (hn : n < 60) (h8 : sj_fi S h 8 = nI n) : sj_Ctr l mX7_append [.ref h, .int c] S (sj_eq (some (.int (nI (n + 1)))) (sj_wFi (sj_wIa (sj_wFi S h 0 0) (b 7) n c) h 8 (nI (n + 1)))) := by
  refine sj_start ([some (.ref h), some (.int c)]) (by decide +kernel) rfl rfl (fun X hX C hR => ?_)
  subst hX
  have hm0 := hm
  obtain ⟨hm', em⟩ := hm0
  subst em
  obtain ⟨kd_h, ⟨rf_h_1, kd_a1, il_a1⟩, ⟨rf_h_2, kd_a2, il_a2⟩, ⟨rf_h_3, kd_a3, il_a3⟩, ⟨rf_h_5, kd_a5, il_a5⟩, ⟨rf_h_7, kd_a7, il_a7⟩, ⟨rf_h_13, kd_a13, il_a13⟩, ⟨rf_h_15, kd_a15, il_a15⟩, hinj⟩ := hm'
  have hmz := sj_mm_f hm h 0 0
  have e8 : sj_fi (sj_wFi S h 0 0) h 8 = nI n := (sj_fi_wFi_k S h _ (by omega)).trans h8
  refine sj_aload_n C 1 rfl dX7_append_0 rfl rfl ?_
  refine sj_iconstv C (0) 2 rfl dX7_append_1 rfl ?_
  refine sj_putI C 5 rfl fd_X7_31 dX7_append_2 rfl rfl kd_h ?_
  refine sj_iload_n C 6 rfl dX7_append_5 rfl rfl ?_
  refine sj_bipush C (33) 8 rfl dX7_append_6 (by decide) ?_
  refine sj_bipush C (126) 10 rfl dX7_append_8 (by decide) ?_
  refine sj_callSd C 13 rfl dX7_append_10 cv_X7_35 rfl (ct_X7_within _ _ _ _ _) rfl rfl rfl ⟨rfl, rfl⟩ ?_
  refine sj_if_ne C 22 16 rfl rfl dX7_append_13 (fun c_13 => ?_) (fun c_13 => ?_)
  · refine sj_aload_n C 23 rfl dX7_append_22 rfl rfl ?_
    refine sj_getI C 26 rfl fd_X7_139 dX7_append_23 kd_h ?_
    refine sj_bipush C (60) 28 rfl dX7_append_26 (by decide) ?_
    rw [e8]
    refine sj_icmp_ne C 37 31 rfl rfl dX7_append_28 (fun c_28 => ?_) (fun c_28 => ?_)
    · refine sj_aload_n C 38 rfl dX7_append_37 rfl rfl ?_
      refine sj_getr C 41 rfl fd_X7_22 dX7_append_38 kd_h rf_h_7 ?_
      refine sj_aload_n C 42 rfl dX7_append_41 rfl rfl ?_
      refine sj_getI C 45 rfl fd_X7_139 dX7_append_42 kd_h ?_
      refine sj_iload_n C 46 rfl dX7_append_45 rfl rfl ?_
      rw [e8]
      refine sj_iast C 47 rfl dX7_append_46 kd_a7 (by show vp_in (nI n) (sj_il S (b 7)); rw [il_a7]; exact vp_in_nI (by omega) (by omega)) ?_
      rw [nI_clamp (by omega)]
      refine sj_aload_n C 48 rfl dX7_append_47 rfl rfl ?_
      refine sj_dup C 49 rfl dX7_append_48 rfl ?_
      refine sj_getI C 52 rfl fd_X7_139 dX7_append_49 kd_h ?_
      refine sj_iconstv C (1) 53 rfl dX7_append_52 rfl ?_
      refine sj_iadd C 54 rfl dX7_append_53 ?_
      rw [show sj_fi (sj_wIa (sj_wFi S h 0 0) (b 7) n c) h 8 = nI n from e8, nI_1]
      refine sj_putI C 57 rfl fd_X7_139 dX7_append_54 rfl rfl kd_h ?_
      refine sj_aload_n C 58 rfl dX7_append_57 rfl rfl ?_
      refine sj_getI C 61 rfl fd_X7_139 dX7_append_58 kd_h ?_
      refine sj_iret C hR rfl rfl dX7_append_61 ?_
      exact ⟨congrArg (fun z => some (Value.int z)) (sj_fi_wFi _ h 8 _), rfl⟩
    · exact absurd ((nI_eq (b := 60) (by omega) (by omega)).mp c_28) (by omega)
  · exact absurd c_13 (by rw [ht]; decide)
set_option maxRecDepth 100000 in
set_option maxHeartbeats 400000 in
theorem ct_X7_drop_1 (l : Launch) {S : sj_St} {h : Nat} {b : Nat → Nat} {m : Nat → Int32} (hm : sj_mm S h b m) (v : Int32) (hb : sj_isn m v = false) : sj_Ctr l mX7_drop [.ref h, .int v] S (sj_eq (some (.int 0)) (sj_wFi S h 0 1)) := by
  refine sj_start ([some (.ref h), some (.int v)]) (by decide +kernel) rfl rfl (fun X hX C hR => ?_)
  subst hX
  have hm0 := hm
  obtain ⟨hm', em⟩ := hm0
  subst em
  obtain ⟨kd_h, ⟨rf_h_1, kd_a1, il_a1⟩, ⟨rf_h_2, kd_a2, il_a2⟩, ⟨rf_h_3, kd_a3, il_a3⟩, ⟨rf_h_5, kd_a5, il_a5⟩, ⟨rf_h_7, kd_a7, il_a7⟩, ⟨rf_h_13, kd_a13, il_a13⟩, ⟨rf_h_15, kd_a15, il_a15⟩, hinj⟩ := hm'
  have hmz := sj_mm_f hm h 0 0
  refine sj_aload_n C 1 rfl dX7_drop_0 rfl rfl ?_
  refine sj_iconstv C (0) 2 rfl dX7_drop_1 rfl ?_
  refine sj_putI C 5 rfl fd_X7_31 dX7_drop_2 rfl rfl kd_h ?_
  refine sj_aload_n C 6 rfl dX7_drop_5 rfl rfl ?_
  refine sj_iload_n C 7 rfl dX7_drop_6 rfl rfl ?_
  refine sj_callVd C 10 rfl dX7_drop_7 cv_X7_142 rfl (ct_X7_isSheet _ hmz _) rfl rfl rfl ⟨_, _, kd_h, rfl, rfl, by decide⟩ ⟨rfl, rfl⟩ ?_
  rw [show sj_bi (sj_wi v 0 ((sj_ia S (b 1)) 9 - 1)) = sj_bi (sj_isn (sj_ia S (b 1)) v) from rfl]
  refine sj_if_ne C 19 13 rfl rfl dX7_drop_10 (fun c_10 => ?_) (fun c_10 => ?_)
  · exact absurd (by rw [hb]; rfl) c_10
  · refine sj_aload_n C 14 rfl dX7_drop_13 rfl rfl ?_
    refine sj_iconstv C (1) 15 rfl dX7_drop_14 rfl ?_
    refine sj_callVd C 18 rfl dX7_drop_15 cv_X7_46 rfl (ct_X7_fails _ hmz 1) rfl rfl rfl ⟨_, _, kd_h, rfl, rfl, by decide⟩ ⟨rfl, rfl⟩ ?_
    rw [sj_wFi_wFi]
    refine sj_iret C hR rfl rfl dX7_drop_18 ?_
    exact ⟨rfl, rfl⟩
set_option maxRecDepth 100000 in
set_option maxHeartbeats 400000 in
theorem ct_X7_drop_0 (l : Launch) {S : sj_St} {h : Nat} {b : Nat → Nat} {m : Nat → Int32} (hm : sj_mm S h b m) (hv : sj_oav m) (i : Nat) (hi : i < sj_tn (m 9)) (q : Nat) (hq : q ≤ 6) (hq4 : sj_fi S h 4 = nI q) : sj_Ctr l mX7_drop [.ref h, .int (nI i)] S (sj_eq (some (.int (sj_drn m i))) (sj_sIa (sj_svS S h b q m) (b 1) (sj_drp m i))) := by
  refine sj_start ([some (.ref h), some (.int (nI i))]) (by decide +kernel) rfl rfl (fun X hX C hR => ?_)
  subst hX
  have hm0 := hm
  obtain ⟨hm', em⟩ := hm0
  subst em
  obtain ⟨kd_h, ⟨rf_h_1, kd_a1, il_a1⟩, ⟨rf_h_2, kd_a2, il_a2⟩, ⟨rf_h_3, kd_a3, il_a3⟩, ⟨rf_h_5, kd_a5, il_a5⟩, ⟨rf_h_7, kd_a7, il_a7⟩, ⟨rf_h_13, kd_a13, il_a13⟩, ⟨rf_h_15, kd_a15, il_a15⟩, hinj⟩ := hm'
  obtain ⟨⟨h9, hn8⟩, ⟨h10, hn28⟩, hoa⟩ := id hv
  have hmz := sj_mm_f hm h 0 0
  refine sj_aload_n C 1 rfl dX7_drop_0 rfl rfl ?_
  refine sj_iconstv C (0) 2 rfl dX7_drop_1 rfl ?_
  refine sj_putI C 5 rfl fd_X7_31 dX7_drop_2 rfl rfl kd_h ?_
  refine sj_aload_n C 6 rfl dX7_drop_5 rfl rfl ?_
  refine sj_iload_n C 7 rfl dX7_drop_6 rfl rfl ?_
  refine sj_callVd C 10 rfl dX7_drop_7 cv_X7_142 rfl (ct_X7_isSheet _ hmz _) rfl rfl rfl ⟨_, _, kd_h, rfl, rfl, by decide⟩ ⟨rfl, rfl⟩ ?_
  rw [show sj_bi (sj_wi (nI i) 0 ((sj_ia S (b 1)) 9 - 1)) = sj_bi (sj_isn (sj_ia S (b 1)) (nI i)) from rfl]
  refine sj_if_ne C 19 13 rfl rfl dX7_drop_10 (fun c_10 => ?_) (fun c_10 => ?_)
  · refine sj_aload_n C 20 rfl dX7_drop_19 rfl rfl ?_
    refine sj_callVv C 23 rfl dX7_drop_20 cv_X7_54 rfl (ct_X7_save _ hmz q hq ((sj_fi_wFi_k S h _ (by omega)).trans hq4)) rfl rfl rfl ⟨_, _, kd_h, rfl, rfl, by decide⟩ ⟨rfl, rfl⟩ ?_
    rw [show sj_wFi (sj_sIa (sj_wFi S h 0 0) (b 3) (sj_sv q (sj_ia S (b 1)) (sj_ia (sj_wFi S h 0 0) (b 3)))) h 4 (nI (sj_qn q + 1)) = (sj_svS S h b q (sj_ia S (b 1))) from rfl]
    refine sj_aload_n C 24 rfl dX7_drop_23 rfl rfl ?_
    refine sj_iload_n C 25 rfl dX7_drop_24 rfl rfl ?_
    refine sj_callVd C 28 rfl dX7_drop_25 cv_X7_145 rfl (ct_X7_drops _ (sj_svS_mm hm q) i h9 hi hn8 h10 hn28) rfl rfl rfl ⟨_, _, kd_h, rfl, rfl, by decide⟩ ⟨rfl, rfl⟩ ?_
    refine sj_iret C hR rfl rfl dX7_drop_28 ?_
    exact ⟨rfl, rfl⟩
  · exact absurd c_10 (by rw [sj_isn_t h9 hn8 hi]; decide)
set_option maxRecDepth 100000 in
set_option maxHeartbeats 400000 in
theorem ct_X7_pass_1 (l : Launch) {S : sj_St} {h : Nat} {b : Nat → Nat} {m : Nat → Int32} (hm : sj_mm S h b m) (y : Int32) (hb : sj_wi y 1 99 = false) : sj_Ctr l mX7_pass [.ref h, .int y] S (sj_eq (some (.int 0)) (sj_wFi S h 0 1)) := by
  refine sj_start ([some (.ref h), some (.int y)]) (by decide +kernel) rfl rfl (fun X hX C hR => ?_)
  subst hX
  have hm0 := hm
  obtain ⟨hm', em⟩ := hm0
  subst em
  obtain ⟨kd_h, ⟨rf_h_1, kd_a1, il_a1⟩, ⟨rf_h_2, kd_a2, il_a2⟩, ⟨rf_h_3, kd_a3, il_a3⟩, ⟨rf_h_5, kd_a5, il_a5⟩, ⟨rf_h_7, kd_a7, il_a7⟩, ⟨rf_h_13, kd_a13, il_a13⟩, ⟨rf_h_15, kd_a15, il_a15⟩, hinj⟩ := hm'
  have hmz := sj_mm_f hm h 0 0
  refine sj_aload_n C 1 rfl dX7_pass_0 rfl rfl ?_
  refine sj_iconstv C (0) 2 rfl dX7_pass_1 rfl ?_
  refine sj_putI C 5 rfl fd_X7_31 dX7_pass_2 rfl rfl kd_h ?_
  refine sj_iload_n C 6 rfl dX7_pass_5 rfl rfl ?_
  refine sj_iconstv C (1) 7 rfl dX7_pass_6 rfl ?_
  refine sj_bipush C (99) 9 rfl dX7_pass_7 (by decide) ?_
  refine sj_callSd C 12 rfl dX7_pass_9 cv_X7_35 rfl (ct_X7_within _ _ _ _ _) rfl rfl rfl ⟨rfl, rfl⟩ ?_
  refine sj_if_ne C 21 15 rfl rfl dX7_pass_12 (fun c_12 => ?_) (fun c_12 => ?_)
  · exact absurd (by rw [hb]; rfl) c_12
  · refine sj_aload_n C 16 rfl dX7_pass_15 rfl rfl ?_
    refine sj_iconstv C (1) 17 rfl dX7_pass_16 rfl ?_
    refine sj_callVd C 20 rfl dX7_pass_17 cv_X7_46 rfl (ct_X7_fails _ hmz 1) rfl rfl rfl ⟨_, _, kd_h, rfl, rfl, by decide⟩ ⟨rfl, rfl⟩ ?_
    rw [sj_wFi_wFi]
    refine sj_iret C hR rfl rfl dX7_pass_20 ?_
    exact ⟨rfl, rfl⟩
set_option maxRecDepth 100000 in
set_option maxHeartbeats 400000 in
theorem ct_X7_pass_0 (l : Launch) {S : sj_St} {h : Nat} {b : Nat → Nat} {m : Nat → Int32} (hm : sj_mm S h b m) (hv : sj_oav m) (y : Int32) (ht : sj_wi y 1 99 = true) (q : Nat) (hq : q ≤ 6) (hq4 : sj_fi S h 4 = nI q) : sj_Ctr l mX7_pass [.ref h, .int y] S (sj_eq (some (.int (sj_old m y (sj_tn (m 9))))) (sj_sIa (sj_svS S h b q m) (b 1) (sj_pas m y (sj_tn (m 9))))) := by
  refine sj_start ([some (.ref h), some (.int y)]) (by decide +kernel) rfl rfl (fun X hX C hR => ?_)
  subst hX
  have hm0 := hm
  obtain ⟨hm', em⟩ := hm0
  subst em
  obtain ⟨kd_h, ⟨rf_h_1, kd_a1, il_a1⟩, ⟨rf_h_2, kd_a2, il_a2⟩, ⟨rf_h_3, kd_a3, il_a3⟩, ⟨rf_h_5, kd_a5, il_a5⟩, ⟨rf_h_7, kd_a7, il_a7⟩, ⟨rf_h_13, kd_a13, il_a13⟩, ⟨rf_h_15, kd_a15, il_a15⟩, hinj⟩ := hm'
  obtain ⟨⟨h9, hn8⟩, ⟨h10, hn28⟩, hoa⟩ := id hv
  have hmz := sj_mm_f hm h 0 0
  refine sj_aload_n C 1 rfl dX7_pass_0 rfl rfl ?_
  refine sj_iconstv C (0) 2 rfl dX7_pass_1 rfl ?_
  refine sj_putI C 5 rfl fd_X7_31 dX7_pass_2 rfl rfl kd_h ?_
  refine sj_iload_n C 6 rfl dX7_pass_5 rfl rfl ?_
  refine sj_iconstv C (1) 7 rfl dX7_pass_6 rfl ?_
  refine sj_bipush C (99) 9 rfl dX7_pass_7 (by decide) ?_
  refine sj_callSd C 12 rfl dX7_pass_9 cv_X7_35 rfl (ct_X7_within _ _ _ _ _) rfl rfl rfl ⟨rfl, rfl⟩ ?_
  refine sj_if_ne C 21 15 rfl rfl dX7_pass_12 (fun c_12 => ?_) (fun c_12 => ?_)
  · refine sj_aload_n C 22 rfl dX7_pass_21 rfl rfl ?_
    refine sj_callVv C 25 rfl dX7_pass_22 cv_X7_54 rfl (ct_X7_save _ hmz q hq ((sj_fi_wFi_k S h _ (by omega)).trans hq4)) rfl rfl rfl ⟨_, _, kd_h, rfl, rfl, by decide⟩ ⟨rfl, rfl⟩ ?_
    rw [show sj_wFi (sj_sIa (sj_wFi S h 0 0) (b 3) (sj_sv q (sj_ia S (b 1)) (sj_ia (sj_wFi S h 0 0) (b 3)))) h 4 (nI (sj_qn q + 1)) = (sj_svS S h b q (sj_ia S (b 1))) from rfl]
    refine sj_aload_n C 26 rfl dX7_pass_25 rfl rfl ?_
    refine sj_iload_n C 27 rfl dX7_pass_26 rfl rfl ?_
    refine sj_callVd C 30 rfl dX7_pass_27 cv_X7_148 rfl (ct_X7_passes _ (sj_svS_mm hm q) hv y) rfl rfl rfl ⟨_, _, kd_h, rfl, rfl, by decide⟩ ⟨rfl, rfl⟩ ?_
    refine sj_iret C hR rfl rfl dX7_pass_30 ?_
    exact ⟨rfl, rfl⟩
  · exact absurd c_12 (by rw [ht]; decide)
set_option maxRecDepth 100000 in
set_option maxHeartbeats 400000 in
theorem ct_X7_set_1 (l : Launch) {S : sj_St} {h : Nat} {b : Nat → Nat} {m : Nat → Int32} (hm : sj_mm S h b m) (s v : Int32) (hb : sj_wi s 0 8 = false) : sj_Ctr l mX7_set [.ref h, .int s, .int v] S (sj_eq (some (.int 0)) (sj_wFi S h 0 1)) := by
  refine sj_start ([some (.ref h), some (.int s), some (.int v), none]) (by decide +kernel) rfl rfl (fun X hX C hR => ?_)
  subst hX
  have hm0 := hm
  obtain ⟨hm', em⟩ := hm0
  subst em
  obtain ⟨kd_h, ⟨rf_h_1, kd_a1, il_a1⟩, ⟨rf_h_2, kd_a2, il_a2⟩, ⟨rf_h_3, kd_a3, il_a3⟩, ⟨rf_h_5, kd_a5, il_a5⟩, ⟨rf_h_7, kd_a7, il_a7⟩, ⟨rf_h_13, kd_a13, il_a13⟩, ⟨rf_h_15, kd_a15, il_a15⟩, hinj⟩ := hm'
  have hmz := sj_mm_f hm h 0 0
  refine sj_aload_n C 1 rfl dX7_set_0 rfl rfl ?_
  refine sj_iconstv C (0) 2 rfl dX7_set_1 rfl ?_
  refine sj_putI C 5 rfl fd_X7_31 dX7_set_2 rfl rfl kd_h ?_
  refine sj_iload_n C 6 rfl dX7_set_5 rfl rfl ?_
  refine sj_iconstv C (0) 7 rfl dX7_set_6 rfl ?_
  refine sj_bipush C (8) 9 rfl dX7_set_7 (by decide) ?_
  refine sj_callSd C 12 rfl dX7_set_9 cv_X7_35 rfl (ct_X7_within _ _ _ _ _) rfl rfl rfl ⟨rfl, rfl⟩ ?_
  refine sj_if_ne C 21 15 rfl rfl dX7_set_12 (fun c_12 => ?_) (fun c_12 => ?_)
  · exact absurd (by rw [hb]; rfl) c_12
  · refine sj_aload_n C 16 rfl dX7_set_15 rfl rfl ?_
    refine sj_iconstv C (1) 17 rfl dX7_set_16 rfl ?_
    refine sj_callVd C 20 rfl dX7_set_17 cv_X7_46 rfl (ct_X7_fails _ hmz 1) rfl rfl rfl ⟨_, _, kd_h, rfl, rfl, by decide⟩ ⟨rfl, rfl⟩ ?_
    rw [sj_wFi_wFi]
    refine sj_iret C hR rfl rfl dX7_set_20 ?_
    exact ⟨rfl, rfl⟩
set_option maxRecDepth 100000 in
set_option maxHeartbeats 400000 in
theorem ct_X7_set_2 (l : Launch) {S : sj_St} {h : Nat} {b : Nat → Nat} {m : Nat → Int32} (hm : sj_mm S h b m) (s v : Int32) (ht : sj_wi s 0 8 = true) (hb : sj_wi v 0 (sj_mst s) = false) : sj_Ctr l mX7_set [.ref h, .int s, .int v] S (sj_eq (some (.int 0)) (sj_wFi S h 0 2)) := by
  refine sj_start ([some (.ref h), some (.int s), some (.int v), none]) (by decide +kernel) rfl rfl (fun X hX C hR => ?_)
  subst hX
  have hm0 := hm
  obtain ⟨hm', em⟩ := hm0
  subst em
  obtain ⟨kd_h, ⟨rf_h_1, kd_a1, il_a1⟩, ⟨rf_h_2, kd_a2, il_a2⟩, ⟨rf_h_3, kd_a3, il_a3⟩, ⟨rf_h_5, kd_a5, il_a5⟩, ⟨rf_h_7, kd_a7, il_a7⟩, ⟨rf_h_13, kd_a13, il_a13⟩, ⟨rf_h_15, kd_a15, il_a15⟩, hinj⟩ := hm'
  have hmz := sj_mm_f hm h 0 0
  refine sj_aload_n C 1 rfl dX7_set_0 rfl rfl ?_
  refine sj_iconstv C (0) 2 rfl dX7_set_1 rfl ?_
  refine sj_putI C 5 rfl fd_X7_31 dX7_set_2 rfl rfl kd_h ?_
  refine sj_iload_n C 6 rfl dX7_set_5 rfl rfl ?_
  refine sj_iconstv C (0) 7 rfl dX7_set_6 rfl ?_
  refine sj_bipush C (8) 9 rfl dX7_set_7 (by decide) ?_
  refine sj_callSd C 12 rfl dX7_set_9 cv_X7_35 rfl (ct_X7_within _ _ _ _ _) rfl rfl rfl ⟨rfl, rfl⟩ ?_
  refine sj_if_ne C 21 15 rfl rfl dX7_set_12 (fun c_12 => ?_) (fun c_12 => ?_)
  · refine sj_iload_n C 22 rfl dX7_set_21 rfl rfl ?_
    refine sj_iconstv C (0) 23 rfl dX7_set_22 rfl ?_
    refine sj_iload_n C 24 rfl dX7_set_23 rfl rfl ?_
    refine sj_callSd C 27 rfl dX7_set_24 cv_X7_151 rfl (ct_X7_mostOf _ _ _) rfl rfl rfl ⟨rfl, rfl⟩ ?_
    refine sj_callSd C 30 rfl dX7_set_27 cv_X7_35 rfl (ct_X7_within _ _ _ _ _) rfl rfl rfl ⟨rfl, rfl⟩ ?_
    refine sj_if_ne C 39 33 rfl rfl dX7_set_30 (fun c_30 => ?_) (fun c_30 => ?_)
    · exact absurd (by rw [hb]; rfl) c_30
    · refine sj_aload_n C 34 rfl dX7_set_33 rfl rfl ?_
      refine sj_iconstv C (2) 35 rfl dX7_set_34 rfl ?_
      refine sj_callVd C 38 rfl dX7_set_35 cv_X7_46 rfl (ct_X7_fails _ hmz 2) rfl rfl rfl ⟨_, _, kd_h, rfl, rfl, by decide⟩ ⟨rfl, rfl⟩ ?_
      rw [sj_wFi_wFi]
      refine sj_iret C hR rfl rfl dX7_set_38 ?_
      exact ⟨rfl, rfl⟩
  · exact absurd c_12 (by rw [ht]; decide)
set_option maxRecDepth 100000 in
set_option maxHeartbeats 400000 in
theorem ct_X7_set_0 (l : Launch) {S : sj_St} {h : Nat} {b : Nat → Nat} {m : Nat → Int32} (hm : sj_mm S h b m) (i : Nat) (v : Int32) (hi : i < 9) (ht2 : sj_wi v 0 (sj_mst (nI i)) = true) (q : Nat) (hq : q ≤ 6) (hq4 : sj_fi S h 4 = nI q) : sj_Ctr l mX7_set [.ref h, .int (nI i), .int v] S (sj_eq (some (.int (m i))) (sj_sIa (sj_svS S h b q m) (b 1) (upd m i v))) := by
  refine sj_start ([some (.ref h), some (.int (nI i)), some (.int v), none]) (by decide +kernel) rfl rfl (fun X hX C hR => ?_)
  subst hX
  have hm0 := hm
  obtain ⟨hm', em⟩ := hm0
  subst em
  obtain ⟨kd_h, ⟨rf_h_1, kd_a1, il_a1⟩, ⟨rf_h_2, kd_a2, il_a2⟩, ⟨rf_h_3, kd_a3, il_a3⟩, ⟨rf_h_5, kd_a5, il_a5⟩, ⟨rf_h_7, kd_a7, il_a7⟩, ⟨rf_h_13, kd_a13, il_a13⟩, ⟨rf_h_15, kd_a15, il_a15⟩, hinj⟩ := hm'
  have hmz := sj_mm_f hm h 0 0
  have esv : sj_ia (sj_svS S h b q (sj_ia S (b 1))) (b 1) = (sj_ia S (b 1)) := (sj_svS_mm hm q).2
  have ht : sj_wi (nI i) 0 8 = true := (sj_wi_n (n := 8) (by omega) (by omega)).trans (decide_eq_true (by omega))
  refine sj_aload_n C 1 rfl dX7_set_0 rfl rfl ?_
  refine sj_iconstv C (0) 2 rfl dX7_set_1 rfl ?_
  refine sj_putI C 5 rfl fd_X7_31 dX7_set_2 rfl rfl kd_h ?_
  refine sj_iload_n C 6 rfl dX7_set_5 rfl rfl ?_
  refine sj_iconstv C (0) 7 rfl dX7_set_6 rfl ?_
  refine sj_bipush C (8) 9 rfl dX7_set_7 (by decide) ?_
  refine sj_callSd C 12 rfl dX7_set_9 cv_X7_35 rfl (ct_X7_within _ _ _ _ _) rfl rfl rfl ⟨rfl, rfl⟩ ?_
  refine sj_if_ne C 21 15 rfl rfl dX7_set_12 (fun c_12 => ?_) (fun c_12 => ?_)
  · refine sj_iload_n C 22 rfl dX7_set_21 rfl rfl ?_
    refine sj_iconstv C (0) 23 rfl dX7_set_22 rfl ?_
    refine sj_iload_n C 24 rfl dX7_set_23 rfl rfl ?_
    refine sj_callSd C 27 rfl dX7_set_24 cv_X7_151 rfl (ct_X7_mostOf _ _ _) rfl rfl rfl ⟨rfl, rfl⟩ ?_
    refine sj_callSd C 30 rfl dX7_set_27 cv_X7_35 rfl (ct_X7_within _ _ _ _ _) rfl rfl rfl ⟨rfl, rfl⟩ ?_
    refine sj_if_ne C 39 33 rfl rfl dX7_set_30 (fun c_30 => ?_) (fun c_30 => ?_)
    · refine sj_aload_n C 40 rfl dX7_set_39 rfl rfl ?_
      refine sj_callVv C 43 rfl dX7_set_40 cv_X7_54 rfl (ct_X7_save _ hmz q hq ((sj_fi_wFi_k S h _ (by omega)).trans hq4)) rfl rfl rfl ⟨_, _, kd_h, rfl, rfl, by decide⟩ ⟨rfl, rfl⟩ ?_
      rw [show sj_wFi (sj_sIa (sj_wFi S h 0 0) (b 3) (sj_sv q (sj_ia S (b 1)) (sj_ia (sj_wFi S h 0 0) (b 3)))) h 4 (nI (sj_qn q + 1)) = (sj_svS S h b q (sj_ia S (b 1))) from rfl]
      refine sj_aload_n C 44 rfl dX7_set_43 rfl rfl ?_
      refine sj_getr C 47 rfl fd_X7_7 dX7_set_44 kd_h rf_h_1 ?_
      refine sj_iconstv C (0) 48 rfl dX7_set_47 rfl ?_
      refine sj_iload_n C 49 rfl dX7_set_48 rfl rfl ?_
      refine sj_iadd C 50 rfl dX7_set_49 ?_
      rw [show (0 : Int32) + nI i = nI i from Int32.zero_add _]
      refine sj_iald C 51 rfl dX7_set_50 kd_a1 (by show vp_in (nI i) (sj_il S (b 1)); rw [il_a1]; exact vp_in_nI (by omega) (by omega)) ?_
      rw [esv, nI_clamp (by omega)]
      refine sj_istore_n_3 C 52 rfl dX7_set_51 rfl rfl ?_
      refine sj_aload_n C 53 rfl dX7_set_52 rfl rfl ?_
      refine sj_getr C 56 rfl fd_X7_7 dX7_set_53 kd_h rf_h_1 ?_
      refine sj_iconstv C (0) 57 rfl dX7_set_56 rfl ?_
      refine sj_iload_n C 58 rfl dX7_set_57 rfl rfl ?_
      refine sj_iadd C 59 rfl dX7_set_58 ?_
      rw [show (0 : Int32) + nI i = nI i from Int32.zero_add _]
      refine sj_iload_n C 60 rfl dX7_set_59 rfl rfl ?_
      refine sj_iast C 61 rfl dX7_set_60 kd_a1 (by show vp_in (nI i) (sj_il S (b 1)); rw [il_a1]; exact vp_in_nI (by omega) (by omega)) ?_
      refine sj_iload_n C 62 rfl dX7_set_61 rfl rfl ?_
      refine sj_iret C hR rfl rfl dX7_set_62 ?_
      refine ⟨rfl, ?_⟩
      rw [sj_wIa_eq, nI_clamp (by omega), esv]
    · exact absurd c_30 (by rw [ht2]; decide)
  · exact absurd c_12 (by rw [ht]; decide)
set_option maxRecDepth 100000 in
set_option maxHeartbeats 400000 in
theorem ct_X7_recant_1 (l : Launch) {S : sj_St} {h : Nat} {b : Nat → Nat} {m : Nat → Int32} (hm : sj_mm S h b m) (v e : Int32) (hb : sj_isn m v = false ∨ sj_isn m e = false) : sj_Ctr l mX7_recant [.ref h, .int v, .int e] S (sj_eq (some (.int 0)) (sj_wFi S h 0 1)) := by
  refine sj_start ([some (.ref h), some (.int v), some (.int e), none]) (by decide +kernel) rfl rfl (fun X hX C hR => ?_)
  subst hX
  have hm0 := hm
  obtain ⟨hm', em⟩ := hm0
  subst em
  obtain ⟨kd_h, ⟨rf_h_1, kd_a1, il_a1⟩, ⟨rf_h_2, kd_a2, il_a2⟩, ⟨rf_h_3, kd_a3, il_a3⟩, ⟨rf_h_5, kd_a5, il_a5⟩, ⟨rf_h_7, kd_a7, il_a7⟩, ⟨rf_h_13, kd_a13, il_a13⟩, ⟨rf_h_15, kd_a15, il_a15⟩, hinj⟩ := hm'
  have hmz := sj_mm_f hm h 0 0
  refine sj_aload_n C 1 rfl dX7_recant_0 rfl rfl ?_
  refine sj_iconstv C (0) 2 rfl dX7_recant_1 rfl ?_
  refine sj_putI C 5 rfl fd_X7_31 dX7_recant_2 rfl rfl kd_h ?_
  refine sj_aload_n C 6 rfl dX7_recant_5 rfl rfl ?_
  refine sj_iload_n C 7 rfl dX7_recant_6 rfl rfl ?_
  refine sj_callVd C 10 rfl dX7_recant_7 cv_X7_142 rfl (ct_X7_isSheet _ hmz _) rfl rfl rfl ⟨_, _, kd_h, rfl, rfl, by decide⟩ ⟨rfl, rfl⟩ ?_
  rw [show sj_bi (sj_wi v 0 ((sj_ia S (b 1)) 9 - 1)) = sj_bi (sj_isn (sj_ia S (b 1)) v) from rfl]
  refine sj_if_eq C 21 13 rfl rfl dX7_recant_10 (fun c_10 => ?_) (fun c_10 => ?_)
  · refine sj_aload_n C 22 rfl dX7_recant_21 rfl rfl ?_
    refine sj_iconstv C (1) 23 rfl dX7_recant_22 rfl ?_
    refine sj_callVd C 26 rfl dX7_recant_23 cv_X7_46 rfl (ct_X7_fails _ hmz 1) rfl rfl rfl ⟨_, _, kd_h, rfl, rfl, by decide⟩ ⟨rfl, rfl⟩ ?_
    rw [sj_wFi_wFi]
    refine sj_iret C hR rfl rfl dX7_recant_26 ?_
    exact ⟨rfl, rfl⟩
  · refine sj_aload_n C 14 rfl dX7_recant_13 rfl rfl ?_
    refine sj_iload_n C 15 rfl dX7_recant_14 rfl rfl ?_
    refine sj_callVd C 18 rfl dX7_recant_15 cv_X7_142 rfl (ct_X7_isSheet _ hmz _) rfl rfl rfl ⟨_, _, kd_h, rfl, rfl, by decide⟩ ⟨rfl, rfl⟩ ?_
    rw [show sj_bi (sj_wi e 0 ((sj_ia S (b 1)) 9 - 1)) = sj_bi (sj_isn (sj_ia S (b 1)) e) from rfl]
    refine sj_if_ne C 27 21 rfl rfl dX7_recant_18 (fun c_18 => ?_) (fun c_18 => ?_)
    · exact absurd hb (fun h8 => h8.elim (fun h7 => c_10 (sj_bi0.mpr h7)) (fun h7 => c_18 (sj_bi0.mpr h7)))
    · refine sj_aload_n C 22 rfl dX7_recant_21 rfl rfl ?_
      refine sj_iconstv C (1) 23 rfl dX7_recant_22 rfl ?_
      refine sj_callVd C 26 rfl dX7_recant_23 cv_X7_46 rfl (ct_X7_fails _ hmz 1) rfl rfl rfl ⟨_, _, kd_h, rfl, rfl, by decide⟩ ⟨rfl, rfl⟩ ?_
      rw [sj_wFi_wFi]
      refine sj_iret C hR rfl rfl dX7_recant_26 ?_
      exact ⟨rfl, rfl⟩
set_option maxRecDepth 100000 in
set_option maxHeartbeats 400000 in
theorem ct_X7_swear_1 (l : Launch) {S : sj_St} {h : Nat} {b : Nat → Nat} {m : Nat → Int32} (hm : sj_mm S h b m) (v e : Int32) (hb : sj_isn m v = false ∨ sj_isn m e = false) (like : Bool) : sj_Ctr l mX7_swear [.ref h, .int v, .int e, .int (sj_bi like)] S (sj_eq (some (.int 0)) (sj_wFi S h 0 1)) := by
  refine sj_start ([some (.ref h), some (.int v), some (.int e), some (.int (sj_bi like))]) (by decide +kernel) rfl rfl (fun X hX C hR => ?_)
  subst hX
  have hm0 := hm
  obtain ⟨hm', em⟩ := hm0
  subst em
  obtain ⟨kd_h, ⟨rf_h_1, kd_a1, il_a1⟩, ⟨rf_h_2, kd_a2, il_a2⟩, ⟨rf_h_3, kd_a3, il_a3⟩, ⟨rf_h_5, kd_a5, il_a5⟩, ⟨rf_h_7, kd_a7, il_a7⟩, ⟨rf_h_13, kd_a13, il_a13⟩, ⟨rf_h_15, kd_a15, il_a15⟩, hinj⟩ := hm'
  have hmz := sj_mm_f hm h 0 0
  refine sj_aload_n C 1 rfl dX7_swear_0 rfl rfl ?_
  refine sj_iconstv C (0) 2 rfl dX7_swear_1 rfl ?_
  refine sj_putI C 5 rfl fd_X7_31 dX7_swear_2 rfl rfl kd_h ?_
  refine sj_aload_n C 6 rfl dX7_swear_5 rfl rfl ?_
  refine sj_iload_n C 7 rfl dX7_swear_6 rfl rfl ?_
  refine sj_callVd C 10 rfl dX7_swear_7 cv_X7_142 rfl (ct_X7_isSheet _ hmz _) rfl rfl rfl ⟨_, _, kd_h, rfl, rfl, by decide⟩ ⟨rfl, rfl⟩ ?_
  rw [show sj_bi (sj_wi v 0 ((sj_ia S (b 1)) 9 - 1)) = sj_bi (sj_isn (sj_ia S (b 1)) v) from rfl]
  refine sj_if_eq C 21 13 rfl rfl dX7_swear_10 (fun c_10 => ?_) (fun c_10 => ?_)
  · refine sj_aload_n C 22 rfl dX7_swear_21 rfl rfl ?_
    refine sj_iconstv C (1) 23 rfl dX7_swear_22 rfl ?_
    refine sj_callVd C 26 rfl dX7_swear_23 cv_X7_46 rfl (ct_X7_fails _ hmz 1) rfl rfl rfl ⟨_, _, kd_h, rfl, rfl, by decide⟩ ⟨rfl, rfl⟩ ?_
    rw [sj_wFi_wFi]
    refine sj_iret C hR rfl rfl dX7_swear_26 ?_
    exact ⟨rfl, rfl⟩
  · refine sj_aload_n C 14 rfl dX7_swear_13 rfl rfl ?_
    refine sj_iload_n C 15 rfl dX7_swear_14 rfl rfl ?_
    refine sj_callVd C 18 rfl dX7_swear_15 cv_X7_142 rfl (ct_X7_isSheet _ hmz _) rfl rfl rfl ⟨_, _, kd_h, rfl, rfl, by decide⟩ ⟨rfl, rfl⟩ ?_
    rw [show sj_bi (sj_wi e 0 ((sj_ia S (b 1)) 9 - 1)) = sj_bi (sj_isn (sj_ia S (b 1)) e) from rfl]
    refine sj_if_ne C 27 21 rfl rfl dX7_swear_18 (fun c_18 => ?_) (fun c_18 => ?_)
    · exact absurd hb (fun h8 => h8.elim (fun h7 => c_10 (sj_bi0.mpr h7)) (fun h7 => c_18 (sj_bi0.mpr h7)))
    · refine sj_aload_n C 22 rfl dX7_swear_21 rfl rfl ?_
      refine sj_iconstv C (1) 23 rfl dX7_swear_22 rfl ?_
      refine sj_callVd C 26 rfl dX7_swear_23 cv_X7_46 rfl (ct_X7_fails _ hmz 1) rfl rfl rfl ⟨_, _, kd_h, rfl, rfl, by decide⟩ ⟨rfl, rfl⟩ ?_
      rw [sj_wFi_wFi]
      refine sj_iret C hR rfl rfl dX7_swear_26 ?_
      exact ⟨rfl, rfl⟩
set_option maxRecDepth 100000 in
set_option maxHeartbeats 400000 in
theorem ct_X7_recant_0 (l : Launch) {S : sj_St} {h : Nat} {b : Nat → Nat} {m : Nat → Int32} (hm : sj_mm S h b m) (hv : sj_oav m) (i e : Nat) (hi : i < sj_tn (m 9)) (he : e < sj_tn (m 9)) (q : Nat) (hq : q ≤ 6) (hq4 : sj_fi S h 4 = nI q) : sj_Ctr l mX7_recant [.ref h, .int (nI i), .int (nI e)] S (sj_eq (some (.int (if sj_fo m i e = -1 then 0 else 1))) (if sj_fo m i e = -1 then sj_svS S h b q m else sj_sIa (sj_svS S h b q m) (b 1) (sj_dO m (sj_tn (sj_fo m i e))))) := by
  refine sj_start ([some (.ref h), some (.int (nI i)), some (.int (nI e)), none]) (by decide +kernel) rfl rfl (fun X hX C hR => ?_)
  subst hX
  have hm0 := hm
  obtain ⟨hm', em⟩ := hm0
  subst em
  obtain ⟨kd_h, ⟨rf_h_1, kd_a1, il_a1⟩, ⟨rf_h_2, kd_a2, il_a2⟩, ⟨rf_h_3, kd_a3, il_a3⟩, ⟨rf_h_5, kd_a5, il_a5⟩, ⟨rf_h_7, kd_a7, il_a7⟩, ⟨rf_h_13, kd_a13, il_a13⟩, ⟨rf_h_15, kd_a15, il_a15⟩, hinj⟩ := hm'
  obtain ⟨⟨h9, hn8⟩, ⟨h10, hn28⟩, hoa⟩ := id hv
  have hmz := sj_mm_f hm h 0 0
  refine sj_aload_n C 1 rfl dX7_recant_0 rfl rfl ?_
  refine sj_iconstv C (0) 2 rfl dX7_recant_1 rfl ?_
  refine sj_putI C 5 rfl fd_X7_31 dX7_recant_2 rfl rfl kd_h ?_
  refine sj_aload_n C 6 rfl dX7_recant_5 rfl rfl ?_
  refine sj_iload_n C 7 rfl dX7_recant_6 rfl rfl ?_
  refine sj_callVd C 10 rfl dX7_recant_7 cv_X7_142 rfl (ct_X7_isSheet _ hmz _) rfl rfl rfl ⟨_, _, kd_h, rfl, rfl, by decide⟩ ⟨rfl, rfl⟩ ?_
  rw [show sj_bi (sj_wi (nI i) 0 ((sj_ia S (b 1)) 9 - 1)) = sj_bi (sj_isn (sj_ia S (b 1)) (nI i)) from rfl]
  refine sj_if_eq C 21 13 rfl rfl dX7_recant_10 (fun c_10 => ?_) (fun c_10 => ?_)
  · exact absurd c_10 (by rw [sj_isn_t h9 hn8 hi]; decide)
  · refine sj_aload_n C 14 rfl dX7_recant_13 rfl rfl ?_
    refine sj_iload_n C 15 rfl dX7_recant_14 rfl rfl ?_
    refine sj_callVd C 18 rfl dX7_recant_15 cv_X7_142 rfl (ct_X7_isSheet _ hmz _) rfl rfl rfl ⟨_, _, kd_h, rfl, rfl, by decide⟩ ⟨rfl, rfl⟩ ?_
    rw [show sj_bi (sj_wi (nI e) 0 ((sj_ia S (b 1)) 9 - 1)) = sj_bi (sj_isn (sj_ia S (b 1)) (nI e)) from rfl]
    refine sj_if_ne C 27 21 rfl rfl dX7_recant_18 (fun c_18 => ?_) (fun c_18 => ?_)
    · refine sj_aload_n C 28 rfl dX7_recant_27 rfl rfl ?_
      refine sj_callVv C 31 rfl dX7_recant_28 cv_X7_54 rfl (ct_X7_save _ hmz q hq ((sj_fi_wFi_k S h _ (by omega)).trans hq4)) rfl rfl rfl ⟨_, _, kd_h, rfl, rfl, by decide⟩ ⟨rfl, rfl⟩ ?_
      rw [show sj_wFi (sj_sIa (sj_wFi S h 0 0) (b 3) (sj_sv q (sj_ia S (b 1)) (sj_ia (sj_wFi S h 0 0) (b 3)))) h 4 (nI (sj_qn q + 1)) = (sj_svS S h b q (sj_ia S (b 1))) from rfl]
      refine sj_aload_n C 32 rfl dX7_recant_31 rfl rfl ?_
      refine sj_iload_n C 33 rfl dX7_recant_32 rfl rfl ?_
      refine sj_iload_n C 34 rfl dX7_recant_33 rfl rfl ?_
      refine sj_callVd C 37 rfl dX7_recant_34 cv_X7_109 rfl (ct_X7_findOath _ (sj_svS_mm hm q) hv i e) rfl rfl rfl ⟨_, _, kd_h, rfl, rfl, by decide⟩ ⟨rfl, rfl⟩ ?_
      refine sj_istore_n_3 C 38 rfl dX7_recant_37 rfl rfl ?_
      refine sj_iload_n C 39 rfl dX7_recant_38 rfl rfl ?_
      refine sj_iconstv C (-1) 40 rfl dX7_recant_39 rfl ?_
      refine sj_icmp_eq C 48 43 rfl rfl dX7_recant_40 (fun c_40 => ?_) (fun c_40 => ?_)
      · refine sj_iload_n C 49 rfl dX7_recant_48 rfl rfl ?_
        refine sj_iconstv C (-1) 50 rfl dX7_recant_49 rfl ?_
        refine sj_icmp_ne C 57 53 rfl rfl dX7_recant_50 (fun c_50 => ?_) (fun c_50 => ?_)
        · refine sj_iconstv C (1) 58 rfl dX7_recant_57 rfl ?_
          refine sj_iret C hR rfl rfl dX7_recant_58 ?_
          exact absurd c_40 c_50
        · refine sj_iconstv C (0) 54 rfl dX7_recant_53 rfl ?_
          refine sj_goto C 58 rfl dX7_recant_54 ?_
          refine sj_iret C hR rfl rfl dX7_recant_58 ?_
          rw [if_pos c_40, if_pos c_40]
          exact ⟨rfl, rfl⟩
      · obtain ⟨j, hj, hfj⟩ : ∃ j, j < sj_tn ((sj_ia S (b 1)) 10) ∧ sj_fo (sj_ia S (b 1)) i e = nI j := by
          rcases sj_fst_in (p := sj_fp (sj_ia S (b 1)) i e) (sj_tn ((sj_ia S (b 1)) 10)) 0 with h8 | ⟨j, -, h8, -, h7⟩
          · exact absurd h8 c_40
          · exact ⟨j, by omega, h7⟩
        rw [hfj]
        refine sj_aload_n C 44 rfl dX7_recant_43 rfl rfl ?_
        refine sj_iload_n C 45 rfl dX7_recant_44 rfl rfl ?_
        refine sj_callVv C 48 rfl dX7_recant_45 cv_X7_129 rfl (ct_X7_dropOath _ (sj_svS_mm hm q) j h10 hn28 hj) rfl rfl rfl ⟨_, _, kd_h, rfl, rfl, by decide⟩ ⟨rfl, rfl⟩ ?_
        refine sj_iload_n C 49 rfl dX7_recant_48 rfl rfl ?_
        refine sj_iconstv C (-1) 50 rfl dX7_recant_49 rfl ?_
        refine sj_icmp_ne C 57 53 rfl rfl dX7_recant_50 (fun c_50 => ?_) (fun c_50 => ?_)
        · refine sj_iconstv C (1) 58 rfl dX7_recant_57 rfl ?_
          refine sj_iret C hR rfl rfl dX7_recant_58 ?_
          rw [if_neg c_40, if_neg c_40, hfj, sj_tn_nI (by omega)]
          exact ⟨rfl, rfl⟩
        · refine sj_iconstv C (0) 54 rfl dX7_recant_53 rfl ?_
          refine sj_goto C 58 rfl dX7_recant_54 ?_
          refine sj_iret C hR rfl rfl dX7_recant_58 ?_
          rw [hfj] at c_40
          exact absurd c_50 c_40
    · exact absurd c_18 (by rw [sj_isn_t h9 hn8 he]; decide)
theorem sj_svS_15 {S : sj_St} {h : Nat} {b : Nat → Nat} {m : Nat → Int32} (hm : sj_mm S h b m) (q : Nat) (g : Nat → Int32) : sj_wFi (sj_sIa (sj_sIa (sj_wFi S h 0 0) (b 15) g) (b 3) (sj_sv q m (sj_ia (sj_sIa (sj_wFi S h 0 0) (b 15) g) (b 3)))) h 4 (nI (sj_qn q + 1)) = sj_sIa (sj_svS S h b q m) (b 15) g := by
  rw [sj_ia_sIa_ne (sj_wFi S h 0 0) g (sj_mo_ne hm.1 (i := 3) (j := 15) (by omega) (by omega) (by omega)), sj_sIa_ne _ (sj_mo_ne hm.1 (i := 15) (j := 3) (by omega) (by omega) (by omega))]
  rfl
set_option maxRecDepth 100000 in
set_option maxHeartbeats 400000 in
theorem ct_X7_swear_2 (l : Launch) {S : sj_St} {h : Nat} {b : Nat → Nat} {m : Nat → Int32} (hm : sj_mm S h b m) (hv : sj_oav m) (hs : sj_shs m) (i e : Nat) (hi : i < sj_tn (m 9)) (he : e < sj_tn (m 9)) (like : Bool) (hw : ¬ sj_why m i e like = 0) : sj_Ctr l mX7_swear [.ref h, .int (nI i), .int (nI e), .int (sj_bi like)] S (sj_pq (0, 2) S h b) := by
  refine sj_start ([some (.ref h), some (.int (nI i)), some (.int (nI e)), some (.int (sj_bi like))]) (by decide +kernel) rfl rfl (fun X hX C hR => ?_)
  subst hX
  have hm0 := hm
  obtain ⟨hm', em⟩ := hm0
  subst em
  obtain ⟨kd_h, ⟨rf_h_1, kd_a1, il_a1⟩, ⟨rf_h_2, kd_a2, il_a2⟩, ⟨rf_h_3, kd_a3, il_a3⟩, ⟨rf_h_5, kd_a5, il_a5⟩, ⟨rf_h_7, kd_a7, il_a7⟩, ⟨rf_h_13, kd_a13, il_a13⟩, ⟨rf_h_15, kd_a15, il_a15⟩, hinj⟩ := hm'
  obtain ⟨⟨h9, hn8⟩, ⟨h10, hn28⟩, hoa⟩ := id hv
  have hmz := sj_mm_f hm h 0 0
  have hvi := hs i hi
  have hve := hs e he
  refine sj_aload_n C 1 rfl dX7_swear_0 rfl rfl ?_
  refine sj_iconstv C (0) 2 rfl dX7_swear_1 rfl ?_
  refine sj_putI C 5 rfl fd_X7_31 dX7_swear_2 rfl rfl kd_h ?_
  refine sj_aload_n C 6 rfl dX7_swear_5 rfl rfl ?_
  refine sj_iload_n C 7 rfl dX7_swear_6 rfl rfl ?_
  refine sj_callVd C 10 rfl dX7_swear_7 cv_X7_142 rfl (ct_X7_isSheet _ hmz _) rfl rfl rfl ⟨_, _, kd_h, rfl, rfl, by decide⟩ ⟨rfl, rfl⟩ ?_
  rw [show sj_bi (sj_wi (nI i) 0 ((sj_ia S (b 1)) 9 - 1)) = sj_bi (sj_isn (sj_ia S (b 1)) (nI i)) from rfl]
  refine sj_if_eq C 21 13 rfl rfl dX7_swear_10 (fun c_10 => ?_) (fun c_10 => ?_)
  · exact absurd c_10 (by rw [sj_isn_t h9 hn8 hi]; decide)
  · refine sj_aload_n C 14 rfl dX7_swear_13 rfl rfl ?_
    refine sj_iload_n C 15 rfl dX7_swear_14 rfl rfl ?_
    refine sj_callVd C 18 rfl dX7_swear_15 cv_X7_142 rfl (ct_X7_isSheet _ hmz _) rfl rfl rfl ⟨_, _, kd_h, rfl, rfl, by decide⟩ ⟨rfl, rfl⟩ ?_
    rw [show sj_bi (sj_wi (nI e) 0 ((sj_ia S (b 1)) 9 - 1)) = sj_bi (sj_isn (sj_ia S (b 1)) (nI e)) from rfl]
    refine sj_if_ne C 27 21 rfl rfl dX7_swear_18 (fun c_18 => ?_) (fun c_18 => ?_)
    · refine sj_aload_n C 28 rfl dX7_swear_27 rfl rfl ?_
      refine sj_iload_n C 29 rfl dX7_swear_28 rfl rfl ?_
      refine sj_iload_n C 30 rfl dX7_swear_29 rfl rfl ?_
      refine sj_iload_n C 31 rfl dX7_swear_30 rfl rfl ?_
      refine sj_callVp C 34 rfl dX7_swear_31 cv_X7_154 rfl (ct_X7_whyNotSworn _ hmz hv i e hvi hve like) rfl rfl rfl ⟨_, _, kd_h, rfl, rfl, by decide⟩ ⟨rfl, rfl⟩ (fun v_31 S_31 hp_31 => ?_)
      obtain ⟨rfl, g_31, rfl⟩ := hp_31
      refine sj_if_eq C 43 37 rfl rfl dX7_swear_34 (fun c_34 => ?_) (fun c_34 => ?_)
      · exact absurd c_34 hw
      · refine sj_aload_n C 38 rfl dX7_swear_37 rfl rfl ?_
        refine sj_iconstv C (2) 39 rfl dX7_swear_38 rfl ?_
        refine sj_callVd C 42 rfl dX7_swear_39 cv_X7_46 rfl (ct_X7_fails _ (sj_mm_15 hmz g_31) 2) rfl rfl rfl ⟨_, _, kd_h, rfl, rfl, by decide⟩ ⟨rfl, rfl⟩ ?_
        refine sj_iret C hR rfl rfl dX7_swear_42 ?_
        exact ⟨rfl, g_31, (sj_sIa_wFi _ _ _ _ _ _).symm.trans (congrArg (fun T => sj_sIa T (b 15) g_31) (sj_wFi_wFi S h 0 0 2))⟩
    · exact absurd c_18 (by rw [sj_isn_t h9 hn8 he]; decide)
set_option maxRecDepth 100000 in
set_option maxHeartbeats 400000 in
theorem ct_X7_swear_0 (l : Launch) {S : sj_St} {h : Nat} {b : Nat → Nat} {m : Nat → Int32} (hm : sj_mm S h b m) (hv : sj_oav m) (hs : sj_shs m) (i e : Nat) (hi : i < sj_tn (m 9)) (he : e < sj_tn (m 9)) (like : Bool) (hw : sj_why m i e like = 0) (hno : sj_tn (m 10) < 28) (hvn : sj_oav (sj_sw m i e like)) (q : Nat) (hq : q ≤ 6) (hq4 : sj_fi S h 4 = nI q) : sj_Ctr l mX7_swear [.ref h, .int (nI i), .int (nI e), .int (sj_bi like)] S (fun v T => v = some (.int (sj_hds (sj_sw m i e like))) ∧ ∃ g, T = sj_sIa (sj_sIa (sj_svS S h b q m) (b 1) (sj_sw m i e like)) (b 15) g) := by
  refine sj_start ([some (.ref h), some (.int (nI i)), some (.int (nI e)), some (.int (sj_bi like))]) (by decide +kernel) rfl rfl (fun X hX C hR => ?_)
  subst hX
  have hm0 := hm
  obtain ⟨hm', em⟩ := hm0
  subst em
  obtain ⟨kd_h, ⟨rf_h_1, kd_a1, il_a1⟩, ⟨rf_h_2, kd_a2, il_a2⟩, ⟨rf_h_3, kd_a3, il_a3⟩, ⟨rf_h_5, kd_a5, il_a5⟩, ⟨rf_h_7, kd_a7, il_a7⟩, ⟨rf_h_13, kd_a13, il_a13⟩, ⟨rf_h_15, kd_a15, il_a15⟩, hinj⟩ := hm'
  obtain ⟨⟨h9, hn8⟩, ⟨h10, hn28⟩, hoa⟩ := id hv
  have hmz := sj_mm_f hm h 0 0
  have hvi := hs i hi
  have hve := hs e he
  refine sj_aload_n C 1 rfl dX7_swear_0 rfl rfl ?_
  refine sj_iconstv C (0) 2 rfl dX7_swear_1 rfl ?_
  refine sj_putI C 5 rfl fd_X7_31 dX7_swear_2 rfl rfl kd_h ?_
  refine sj_aload_n C 6 rfl dX7_swear_5 rfl rfl ?_
  refine sj_iload_n C 7 rfl dX7_swear_6 rfl rfl ?_
  refine sj_callVd C 10 rfl dX7_swear_7 cv_X7_142 rfl (ct_X7_isSheet _ hmz _) rfl rfl rfl ⟨_, _, kd_h, rfl, rfl, by decide⟩ ⟨rfl, rfl⟩ ?_
  rw [show sj_bi (sj_wi (nI i) 0 ((sj_ia S (b 1)) 9 - 1)) = sj_bi (sj_isn (sj_ia S (b 1)) (nI i)) from rfl]
  refine sj_if_eq C 21 13 rfl rfl dX7_swear_10 (fun c_10 => ?_) (fun c_10 => ?_)
  · exact absurd c_10 (by rw [sj_isn_t h9 hn8 hi]; decide)
  · refine sj_aload_n C 14 rfl dX7_swear_13 rfl rfl ?_
    refine sj_iload_n C 15 rfl dX7_swear_14 rfl rfl ?_
    refine sj_callVd C 18 rfl dX7_swear_15 cv_X7_142 rfl (ct_X7_isSheet _ hmz _) rfl rfl rfl ⟨_, _, kd_h, rfl, rfl, by decide⟩ ⟨rfl, rfl⟩ ?_
    rw [show sj_bi (sj_wi (nI e) 0 ((sj_ia S (b 1)) 9 - 1)) = sj_bi (sj_isn (sj_ia S (b 1)) (nI e)) from rfl]
    refine sj_if_ne C 27 21 rfl rfl dX7_swear_18 (fun c_18 => ?_) (fun c_18 => ?_)
    · refine sj_aload_n C 28 rfl dX7_swear_27 rfl rfl ?_
      refine sj_iload_n C 29 rfl dX7_swear_28 rfl rfl ?_
      refine sj_iload_n C 30 rfl dX7_swear_29 rfl rfl ?_
      refine sj_iload_n C 31 rfl dX7_swear_30 rfl rfl ?_
      refine sj_callVp C 34 rfl dX7_swear_31 cv_X7_154 rfl (ct_X7_whyNotSworn _ hmz hv i e hvi hve like) rfl rfl rfl ⟨_, _, kd_h, rfl, rfl, by decide⟩ ⟨rfl, rfl⟩ (fun v_31 S_31 hp_31 => ?_)
      obtain ⟨rfl, g_31, rfl⟩ := hp_31
      refine sj_if_eq C 43 37 rfl rfl dX7_swear_34 (fun c_34 => ?_) (fun c_34 => ?_)
      · refine sj_aload_n C 44 rfl dX7_swear_43 rfl rfl ?_
        refine sj_callVv C 47 rfl dX7_swear_44 cv_X7_54 rfl (ct_X7_save _ (sj_mm_15 hmz g_31) q hq ((sj_fi_wFi_k S h _ (by omega)).trans hq4)) rfl rfl rfl ⟨_, _, kd_h, rfl, rfl, by decide⟩ ⟨rfl, rfl⟩ ?_
        rw [sj_svS_15 hm q g_31]
        refine sj_aload_n C 48 rfl dX7_swear_47 rfl rfl ?_
        refine sj_iload_n C 49 rfl dX7_swear_48 rfl rfl ?_
        refine sj_iload_n C 50 rfl dX7_swear_49 rfl rfl ?_
        refine sj_iload_n C 51 rfl dX7_swear_50 rfl rfl ?_
        refine sj_callVp C 54 rfl dX7_swear_51 cv_X7_158 rfl (ct_X7_swears _ (sj_mm_15 (sj_svS_mm hm q) g_31) i e like h10 hno hvn) rfl rfl rfl ⟨_, _, kd_h, rfl, rfl, by decide⟩ ⟨rfl, rfl⟩ (fun v_51 S_51 hp_51 => ?_)
        obtain ⟨rfl, g_51, rfl⟩ := hp_51
        refine sj_iret C hR rfl rfl dX7_swear_54 ?_
        refine ⟨rfl, g_51, ?_⟩
        rw [sj_sIa_ne _ (sj_mo_ne hm.1 (i := 15) (j := 1) (by omega) (by omega) (by omega)), sj_sIa_sIa]
      · exact absurd hw c_34
    · exact absurd c_18 (by rw [sj_isn_t h9 hn8 he]; decide)
