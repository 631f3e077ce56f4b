/-! THE REFERENCE: what is asked of the oaths and of the hands -/
theorem sj_scr_id {S : sj_St} {b : Nat → Nat} {r : Option Value} : sj_scr r S b r S := ⟨rfl, sj_ia S (b 15), (sj_sIa_id S (b 15)).symm⟩
def sj_hds (m : Nat → Int32) : Int32 := sj_sum (fun k => sj_bi (decide (sj_hH m (-1) k = nI k))) (sj_tn (m 9))
def sj_a1 (m : Nat → Int32) (i e : Nat) : Bool := decide (sj_hH m (-1) i = sj_hH m (-1) e)
def sj_fp (m : Nat → Int32) (i e k : Nat) : Bool := (decide (sj_oa m k 0 = nI i) && decide (sj_oa m k 1 = nI e)) || (decide (sj_oa m k 0 = nI e) && decide (sj_oa m k 1 = nI i))
/-- the first place from k on, of j places, where p holds -/
def sj_fst (p : Nat → Bool) : Nat → Nat → Int32
  | 0, _ => -1
  | j + 1, k => if p k then nI k else sj_fst p j (k + 1)
def sj_fo (m : Nat → Int32) (i e : Nat) : Int32 := sj_fst (sj_fp m i e) (sj_tn (m 10)) 0
theorem sj_fst_s {p : Nat → Bool} {n k : Nat} (h : k < n) : sj_fst p (n - k) k = if p k then nI k else sj_fst p (n - (k + 1)) (k + 1) := by
  obtain ⟨j, hj⟩ : ∃ j, n - k = j + 1 := ⟨n - k - 1, by omega⟩
  have h2 : n - (k + 1) = j := by omega
  rw [hj, h2]
  rfl
/-- the hands as they would be if two sheets were joined -/
def sj_jH (m : Nat → Int32) (i e : Nat) : Nat → Int32 := sj_jn (sj_tn (m 9)) (sj_hH m (-1)) (sj_hH m (-1) i) (sj_hH m (-1) e)
def sj_brk (m : Nat → Int32) (i e : Nat) : Nat → Bool
  | 0 => false
  | k + 1 => sj_brk m i e k || (decide (sj_oa m k 2 = 0) && decide (sj_jH m i e (sj_tn (sj_oa m k 0)) = sj_jH m i e (sj_tn (sj_oa m k 1))))
def sj_why (m : Nat → Int32) (i e : Nat) (like : Bool) : Int32 :=
  if i = e then 1 else if ¬ sj_fo m i e = -1 then 2 else if like = false then (if sj_a1 m i e then 6 else 0)
  else if sj_trm m i || sj_trm m e then 3 else if sj_lik m i e < m 8 then 4 else if sj_brk m i e (sj_tn (m 10)) then 5 else 0
def sj_hld (m : Nat → Int32) (k : Nat) : Bool := decide (sj_oa m k 2 = 1) && decide (¬ sj_hH m (nI k) (sj_tn (sj_oa m k 0)) = sj_hH m (nI k) (sj_tn (sj_oa m k 1)))
def sj_oof (m : Nat → Int32) (i : Nat) : Int32 := sj_sum (fun k => sj_bi (decide (sj_oa m k 0 = nI i) || decide (sj_oa m k 1 = nI i))) (sj_tn (m 10))
def sj_lko (m : Nat → Int32) : Int32 := sj_sum (fun k => sj_oa m k 2) (sj_tn (m 10))
def sj_mem (m : Nat → Int32) (k : Nat) : Int32 := sj_sum (fun e => sj_bi (decide (sj_hH m (-1) e = nI k))) (sj_tn (m 9))
def sj_big (f : Nat → Int32) : Nat → Int32
  | 0 => 0
  | k + 1 => if sj_big f k < f k then f k else sj_big f k
def sj_moh (m : Nat → Int32) : Int32 := sj_big (sj_mem m) (sj_tn (m 9))
def sj_trs (m : Nat → Int32) : Int32 := sj_sum (fun k => sj_bi (sj_trm m k)) (sj_tn (m 9))
/-- the sheets as they may be -/
def sj_shs (m : Nat → Int32) : Prop := ∀ i, i < sj_tn (m 9) → sj_shv m i
def sj_lpr (m : Nat → Int32) (k : Nat) : Int32 := sj_sum (fun e => sj_bi (decide (m 8 ≤ sj_lik m k e))) k
def sj_lps (m : Nat → Int32) : Nat → Int32
  | 0 => 0
  | k + 1 => sj_lps m k + sj_lpr m k
def sj_tol (m : Nat → Int32) (i e j : Nat) : Int32 := if sj_gn m i e j then -1 else if sj_dfr m i e j < 0 then 0 else sj_dfr m i e j
def sj_tst (m : Nat → Int32) (i k w : Nat) : Int32 := if nI (sj_ns m i) ≤ nI k then -1 else sj_os m i k w + (if w = 0 then 100 else 0)
def sj_too (m : Nat → Int32) (i e : Nat) : Int32 := if sj_fo m i e = -1 then -1 else sj_oa m (sj_tn (sj_fo m i e)) 2
set_option maxRecDepth 100000 in
set_option maxHeartbeats 4000000 in
theorem ct_X7_hands (l : Launch) {S : sj_St} {h : Nat} {b : Nat → Nat} {m : Nat → Int32} (hm : sj_mm S h b m) (hv : sj_oav m) : sj_Ctr l mX7_hands [.ref h] S (sj_scr (some (.int (sj_hds m))) S b) := by
  refine sj_start ([some (.ref h), none, none]) (by decide +kernel) rfl rfl (fun X hX C hR => ?_)
  subst hX
  have hm0 := hm
  obtain ⟨hm', em⟩ := hm0
  subst em
  obtain ⟨kd_h, ⟨rf_h_1, kd_a1, il_a1⟩, ⟨rf_h_2, kd_a2, il_a2⟩, ⟨rf_h_3, kd_a3, il_a3⟩, ⟨rf_h_5, kd_a5, il_a5⟩, ⟨rf_h_7, kd_a7, il_a7⟩, ⟨rf_h_13, kd_a13, il_a13⟩, ⟨rf_h_15, kd_a15, il_a15⟩, hinj⟩ := hm'
  obtain ⟨⟨h9, hn8⟩, ⟨h10, hn28⟩, hoa⟩ := id hv
  have hmA := sj_mm_15 hm (sj_cp 8 (sj_hH (sj_ia S (b 1)) (-1)) (sj_ia S (b 15)))
  have er : ∀ k9, k9 < 8 → sj_ia (sj_sIa S (b 15) (sj_cp 8 (sj_hH (sj_ia S (b 1)) (-1)) (sj_ia S (b 15)))) (b 15) (nI k9).toNatClampNeg = sj_hH (sj_ia S (b 1)) (-1) k9 := fun k9 hk => by
    rw [sj_ia_sIa, nI_clamp (by omega)]
    exact if_pos hk
  have e1 : sj_ia (sj_sIa S (b 15) (sj_cp 8 (sj_hH (sj_ia S (b 1)) (-1)) (sj_ia S (b 15)))) (b 1) = (sj_ia S (b 1)) := sj_ia_sIa_ne S _ (sj_mo_ne hm.1 (by omega) (by omega) (by omega))
  have cut_9 : sj_G X (sj_sIa S (b 15) (sj_cp 8 (sj_hH (sj_ia S (b 1)) (-1)) (sj_ia S (b 15)))) 0 0 [some (.ref h), some (.int (sj_sum (fun k => sj_bi (decide (sj_hH (sj_ia S (b 1)) (-1) k = nI k))) 0)), some (.int (nI 0))] 9 [] := by
    refine sj_down (fun k => sj_G X (sj_sIa S (b 15) (sj_cp 8 (sj_hH (sj_ia S (b 1)) (-1)) (sj_ia S (b 15)))) 0 0 [some (.ref h), some (.int (sj_sum (fun k => sj_bi (decide (sj_hH (sj_ia S (b 1)) (-1) k = nI k))) k)), some (.int (nI k))] 9 []) (sj_tn ((sj_ia S (b 1)) 9)) (fun k hk ih => ?_)
    refine sj_iload_n C 10 rfl dX7_hands_9 rfl rfl ?_
    refine sj_aload_n C 11 rfl dX7_hands_10 rfl rfl ?_
    refine sj_getr C 14 rfl fd_X7_7 dX7_hands_11 kd_h rf_h_1 ?_
    refine sj_bipush C (9) 16 rfl dX7_hands_14 (by decide) ?_
    refine sj_iald C 17 rfl dX7_hands_16 kd_a1 (by show vp_in (nI 9) (sj_il S (b 1)); rw [il_a1]; exact vp_in_nI (by omega) (by omega)) ?_
    rw [show Int32.toNatClampNeg (9) = 9 from rfl, e1, h9]
    refine sj_icmp_ge C 44 20 rfl rfl dX7_hands_17 (fun c_17 => ?_) (fun c_17 => ?_)
    · refine sj_iload_n C 45 rfl dX7_hands_44 rfl rfl ?_
      refine sj_iret C hR rfl rfl dX7_hands_45 ?_
      have hkn : k = sj_tn ((sj_ia S (b 1)) 9) := by
        have h8 : ¬ k < sj_tn ((sj_ia S (b 1)) 9) := fun h7 => nI_ge h7 (by omega) c_17
        omega
      subst hkn
      refine ⟨congrArg (fun z => some (Value.int z)) ?_, _, rfl⟩
      rfl
    · have hlt : k < sj_tn ((sj_ia S (b 1)) 9) := Nat.not_le.mp fun h8 => c_17 (nI_le h8 (by omega))
      refine sj_iload_n C 21 rfl dX7_hands_20 rfl rfl ?_
      refine sj_aload_n C 22 rfl dX7_hands_21 rfl rfl ?_
      refine sj_getr C 25 rfl fd_X7_28 dX7_hands_22 kd_h rf_h_15 ?_
      refine sj_iload_n C 26 rfl dX7_hands_25 rfl rfl ?_
      refine sj_iald C 27 rfl dX7_hands_26 kd_a15 (by show vp_in (nI k) (sj_il S (b 15)); rw [il_a15]; exact vp_in_nI (by omega : k < 8) (by omega)) ?_
      rw [er k (by omega)]
      refine sj_iload_n C 28 rfl dX7_hands_27 rfl rfl ?_
      refine sj_icmp_ne C 35 31 rfl rfl dX7_hands_28 (fun c_28 => ?_) (fun c_28 => ?_)
      · refine sj_iconstv C (0) 36 rfl dX7_hands_35 rfl ?_
        refine sj_iadd C 37 rfl dX7_hands_36 ?_
        refine sj_istore_n_1 C 38 rfl dX7_hands_37 rfl rfl ?_
        refine sj_iinc_2 C 41 rfl dX7_hands_38 rfl rfl ?_
        refine sj_goto C 9 rfl dX7_hands_41 ?_
        have e9 : sj_sum (fun k => sj_bi (decide (sj_hH (sj_ia S (b 1)) (-1) k = nI k))) (k + 1) = sj_sum (fun k => sj_bi (decide (sj_hH (sj_ia S (b 1)) (-1) k = nI k))) k + 0 := by
          show _ + sj_bi _ = _
          rw [decide_eq_false c_28]
          rfl
        have ih' := ih hlt
        rw [e9] at ih'
        rw [sj_n1]
        exact ih'
      · refine sj_iconstv C (1) 32 rfl dX7_hands_31 rfl ?_
        refine sj_goto C 36 rfl dX7_hands_32 ?_
        refine sj_iadd C 37 rfl dX7_hands_36 ?_
        refine sj_istore_n_1 C 38 rfl dX7_hands_37 rfl rfl ?_
        refine sj_iinc_2 C 41 rfl dX7_hands_38 rfl rfl ?_
        refine sj_goto C 9 rfl dX7_hands_41 ?_
        have e9 : sj_sum (fun k => sj_bi (decide (sj_hH (sj_ia S (b 1)) (-1) k = nI k))) (k + 1) = sj_sum (fun k => sj_bi (decide (sj_hH (sj_ia S (b 1)) (-1) k = nI k))) k + 1 := by
          show _ + sj_bi _ = _
          rw [decide_eq_true c_28]
          rfl
        have ih' := ih hlt
        rw [e9] at ih'
        rw [sj_n1]
        exact ih'
  refine sj_aload_n C 1 rfl dX7_hands_0 rfl rfl ?_
  refine sj_iconstv C (-1) 2 rfl dX7_hands_1 rfl ?_
  refine sj_callVv C 5 rfl dX7_hands_2 cv_X7_105 rfl (ct_X7_layHands _ hm (-1) hv) rfl rfl rfl ⟨_, _, kd_h, rfl, rfl, by decide⟩ ⟨rfl, rfl⟩ ?_
  refine sj_iconstv C (0) 6 rfl dX7_hands_5 rfl ?_
  refine sj_istore_n_1 C 7 rfl dX7_hands_6 rfl rfl ?_
  refine sj_iconstv C (0) 8 rfl dX7_hands_7 rfl ?_
  refine sj_istore_n_2 C 9 rfl dX7_hands_8 rfl rfl ?_
  exact cut_9
set_option maxRecDepth 100000 in
set_option maxHeartbeats 4000000 in
theorem ct_X7_areOfOne (l : Launch) {S : sj_St} {h : Nat} {b : Nat → Nat} {m : Nat → Int32} (hm : sj_mm S h b m) (hv : sj_oav m) (i e : Nat) (hi : i < 8) (he : e < 8) : sj_Ctr l mX7_areOfOne [.ref h, .int (nI i), .int (nI e)] S (sj_scr (some (.int (sj_bi (sj_a1 m i e)))) S b) := by
  refine sj_start ([some (.ref h), some (.int (nI i)), some (.int (nI e))]) (by decide +kernel) rfl rfl (fun X hX C hR => ?_)
  subst hX
  have hm0 := hm
  obtain ⟨hm', em⟩ := hm0
  subst em
  obtain ⟨kd_h, ⟨rf_h_1, kd_a1, il_a1⟩, ⟨rf_h_2, kd_a2, il_a2⟩, ⟨rf_h_3, kd_a3, il_a3⟩, ⟨rf_h_5, kd_a5, il_a5⟩, ⟨rf_h_7, kd_a7, il_a7⟩, ⟨rf_h_13, kd_a13, il_a13⟩, ⟨rf_h_15, kd_a15, il_a15⟩, hinj⟩ := hm'
  obtain ⟨⟨h9, hn8⟩, ⟨h10, hn28⟩, hoa⟩ := id hv
  have hmA := sj_mm_15 hm (sj_cp 8 (sj_hH (sj_ia S (b 1)) (-1)) (sj_ia S (b 15)))
  have er : ∀ k9, k9 < 8 → sj_ia (sj_sIa S (b 15) (sj_cp 8 (sj_hH (sj_ia S (b 1)) (-1)) (sj_ia S (b 15)))) (b 15) (nI k9).toNatClampNeg = sj_hH (sj_ia S (b 1)) (-1) k9 := fun k9 hk => by
    rw [sj_ia_sIa, nI_clamp (by omega)]
    exact if_pos hk
  have e1 : sj_ia (sj_sIa S (b 15) (sj_cp 8 (sj_hH (sj_ia S (b 1)) (-1)) (sj_ia S (b 15)))) (b 1) = (sj_ia S (b 1)) := sj_ia_sIa_ne S _ (sj_mo_ne hm.1 (by omega) (by omega) (by omega))
  refine sj_aload_n C 1 rfl dX7_areOfOne_0 rfl rfl ?_
  refine sj_iconstv C (-1) 2 rfl dX7_areOfOne_1 rfl ?_
  refine sj_callVv C 5 rfl dX7_areOfOne_2 cv_X7_105 rfl (ct_X7_layHands _ hm (-1) hv) rfl rfl rfl ⟨_, _, kd_h, rfl, rfl, by decide⟩ ⟨rfl, rfl⟩ ?_
  refine sj_aload_n C 6 rfl dX7_areOfOne_5 rfl rfl ?_
  refine sj_getr C 9 rfl fd_X7_28 dX7_areOfOne_6 kd_h rf_h_15 ?_
  refine sj_iload_n C 10 rfl dX7_areOfOne_9 rfl rfl ?_
  refine sj_iald C 11 rfl dX7_areOfOne_10 kd_a15 (by show vp_in (nI i) (sj_il S (b 15)); rw [il_a15]; exact vp_in_nI hi (by omega)) ?_
  rw [er i hi]
  refine sj_aload_n C 12 rfl dX7_areOfOne_11 rfl rfl ?_
  refine sj_getr C 15 rfl fd_X7_28 dX7_areOfOne_12 kd_h rf_h_15 ?_
  refine sj_iload_n C 16 rfl dX7_areOfOne_15 rfl rfl ?_
  refine sj_iald C 17 rfl dX7_areOfOne_16 kd_a15 (by show vp_in (nI e) (sj_il S (b 15)); rw [il_a15]; exact vp_in_nI he (by omega)) ?_
  rw [er e he]
  refine sj_icmp_ne C 24 20 rfl rfl dX7_areOfOne_17 (fun c_17 => ?_) (fun c_17 => ?_)
  · refine sj_iconstv C (0) 25 rfl dX7_areOfOne_24 rfl ?_
    refine sj_zret C hR rfl rfl rfl dX7_areOfOne_25 ?_
    refine ⟨congrArg (fun z => some (Value.int z)) ?_, _, rfl⟩
    unfold sj_a1
    rw [decide_eq_false c_17]
    rfl
  · refine sj_iconstv C (1) 21 rfl dX7_areOfOne_20 rfl ?_
    refine sj_goto C 25 rfl dX7_areOfOne_21 ?_
    refine sj_zret C hR rfl rfl rfl dX7_areOfOne_25 ?_
    refine ⟨congrArg (fun z => some (Value.int z)) ?_, _, rfl⟩
    unfold sj_a1
    rw [decide_eq_true c_17]
    rfl
set_option maxRecDepth 100000 in
set_option maxHeartbeats 4000000 in
theorem ct_X7_handOf (l : Launch) {S : sj_St} {h : Nat} {b : Nat → Nat} {m : Nat → Int32} (hm : sj_mm S h b m) (hv : sj_oav m) (i : Nat) (hi : i < 8) : sj_Ctr l mX7_handOf [.ref h, .int (nI i)] S (sj_scr (some (.int (sj_hH m (-1) i))) S b) := by
  refine sj_start ([some (.ref h), some (.int (nI i))]) (by decide +kernel) rfl rfl (fun X hX C hR => ?_)
  subst hX
  have hm0 := hm
  obtain ⟨hm', em⟩ := hm0
  subst em
  obtain ⟨kd_h, ⟨rf_h_1, kd_a1, il_a1⟩, ⟨rf_h_2, kd_a2, il_a2⟩, ⟨rf_h_3, kd_a3, il_a3⟩, ⟨rf_h_5, kd_a5, il_a5⟩, ⟨rf_h_7, kd_a7, il_a7⟩, ⟨rf_h_13, kd_a13, il_a13⟩, ⟨rf_h_15, kd_a15, il_a15⟩, hinj⟩ := hm'
  obtain ⟨⟨h9, hn8⟩, ⟨h10, hn28⟩, hoa⟩ := id hv
  have hmA := sj_mm_15 hm (sj_cp 8 (sj_hH (sj_ia S (b 1)) (-1)) (sj_ia S (b 15)))
  have er : ∀ k9, k9 < 8 → sj_ia (sj_sIa S (b 15) (sj_cp 8 (sj_hH (sj_ia S (b 1)) (-1)) (sj_ia S (b 15)))) (b 15) (nI k9).toNatClampNeg = sj_hH (sj_ia S (b 1)) (-1) k9 := fun k9 hk => by
    rw [sj_ia_sIa, nI_clamp (by omega)]
    exact if_pos hk
  have e1 : sj_ia (sj_sIa S (b 15) (sj_cp 8 (sj_hH (sj_ia S (b 1)) (-1)) (sj_ia S (b 15)))) (b 1) = (sj_ia S (b 1)) := sj_ia_sIa_ne S _ (sj_mo_ne hm.1 (by omega) (by omega) (by omega))
  refine sj_aload_n C 1 rfl dX7_handOf_0 rfl rfl ?_
  refine sj_iconstv C (-1) 2 rfl dX7_handOf_1 rfl ?_
  refine sj_callVv C 5 rfl dX7_handOf_2 cv_X7_105 rfl (ct_X7_layHands _ hm (-1) hv) rfl rfl rfl ⟨_, _, kd_h, rfl, rfl, by decide⟩ ⟨rfl, rfl⟩ ?_
  refine sj_aload_n C 6 rfl dX7_handOf_5 rfl rfl ?_
  refine sj_getr C 9 rfl fd_X7_28 dX7_handOf_6 kd_h rf_h_15 ?_
  refine sj_iload_n C 10 rfl dX7_handOf_9 rfl rfl ?_
  refine sj_iald C 11 rfl dX7_handOf_10 kd_a15 (by show vp_in (nI i) (sj_il S (b 15)); rw [il_a15]; exact vp_in_nI hi (by omega)) ?_
  rw [er i hi]
  refine sj_iret C hR rfl rfl dX7_handOf_11 ?_
  refine ⟨congrArg (fun z => some (Value.int z)) ?_, _, rfl⟩
  rfl
set_option maxRecDepth 100000 in
set_option maxHeartbeats 4000000 in
theorem ct_X7_findOath (l : Launch) {S : sj_St} {h : Nat} {b : Nat → Nat} {m : Nat → Int32} (hm : sj_mm S h b m) (hv : sj_oav m) (i e : Nat) : sj_Ctr l mX7_findOath [.ref h, .int (nI i), .int (nI e)] S (sj_eq (some (.int (sj_fo m i e))) S) := by
  refine sj_start ([some (.ref h), some (.int (nI i)), some (.int (nI e)), none, none, none]) (by decide +kernel) rfl rfl (fun X hX C hR => ?_)
  subst hX
  have hm0 := hm
  obtain ⟨hm', em⟩ := hm0
  subst em
  obtain ⟨kd_h, ⟨rf_h_1, kd_a1, il_a1⟩, ⟨rf_h_2, kd_a2, il_a2⟩, ⟨rf_h_3, kd_a3, il_a3⟩, ⟨rf_h_5, kd_a5, il_a5⟩, ⟨rf_h_7, kd_a7, il_a7⟩, ⟨rf_h_13, kd_a13, il_a13⟩, ⟨rf_h_15, kd_a15, il_a15⟩, hinj⟩ := hm'
  obtain ⟨⟨h9, hn8⟩, ⟨h10, hn28⟩, hoa⟩ := id hv
  have cut_2 : sj_fo (sj_ia S (b 1)) i e = sj_fst (sj_fp (sj_ia S (b 1)) i e) (sj_tn ((sj_ia S (b 1)) 10) - 0) 0 → ∀ o1 o2, sj_G X S 0 0 [some (.ref h), some (.int (nI i)), some (.int (nI e)), some (.int (nI 0)), o1, o2] 2 [] := by
    refine sj_down (fun k => sj_fo (sj_ia S (b 1)) i e = sj_fst (sj_fp (sj_ia S (b 1)) i e) (sj_tn ((sj_ia S (b 1)) 10) - k) k → ∀ o1 o2, sj_G X S 0 0 [some (.ref h), some (.int (nI i)), some (.int (nI e)), some (.int (nI k)), o1, o2] 2 []) (sj_tn ((sj_ia S (b 1)) 10)) (fun k hk ih => ?_)
    intro hr o1 o2
    refine sj_iload_n C 3 rfl dX7_findOath_2 rfl rfl ?_
    refine sj_aload_n C 4 rfl dX7_findOath_3 rfl rfl ?_
    refine sj_getr C 7 rfl fd_X7_7 dX7_findOath_4 kd_h rf_h_1 ?_
    refine sj_bipush C (10) 9 rfl dX7_findOath_7 (by decide) ?_
    refine sj_iald C 10 rfl dX7_findOath_9 kd_a1 (by show vp_in (nI 10) (sj_il S (b 1)); rw [il_a1]; exact vp_in_nI (by omega) (by omega)) ?_
    rw [show Int32.toNatClampNeg (10) = 10 from rfl, h10]
    refine sj_icmp_ge C 61 13 rfl rfl dX7_findOath_10 (fun c_10 => ?_) (fun c_10 => ?_)
    · refine sj_iconstv C (-1) 62 rfl dX7_findOath_61 rfl ?_
      refine sj_iret C hR rfl rfl dX7_findOath_62 ?_
      refine ⟨congrArg (fun z => some (Value.int z)) ?_, rfl⟩
      have hkn : k = sj_tn ((sj_ia S (b 1)) 10) := by
        have h8 : ¬ k < sj_tn ((sj_ia S (b 1)) 10) := fun h7 => nI_ge h7 (by omega) c_10
        omega
      subst hkn
      rw [hr, Nat.sub_self]
      rfl
    · have hlt : k < sj_tn ((sj_ia S (b 1)) 10) := Nat.not_le.mp fun h8 => c_10 (nI_le h8 (by omega))
      refine sj_aload_n C 14 rfl dX7_findOath_13 rfl rfl ?_
      refine sj_iload_n C 15 rfl dX7_findOath_14 rfl rfl ?_
      refine sj_iconstv C (0) 16 rfl dX7_findOath_15 rfl ?_
      refine sj_callVd C 19 rfl dX7_findOath_16 cv_X7_98 rfl (ct_X7_ofOath _ hm k 0 (by omega) (by omega)) rfl rfl rfl ⟨_, _, kd_h, rfl, rfl, by decide⟩ ⟨rfl, rfl⟩ ?_
      refine sj_istore_4 C 21 rfl dX7_findOath_19 rfl rfl ?_
      refine sj_aload_n C 22 rfl dX7_findOath_21 rfl rfl ?_
      refine sj_iload_n C 23 rfl dX7_findOath_22 rfl rfl ?_
      refine sj_iconstv C (1) 24 rfl dX7_findOath_23 rfl ?_
      refine sj_callVd C 27 rfl dX7_findOath_24 cv_X7_98 rfl (ct_X7_ofOath _ hm k 1 (by omega) (by omega)) rfl rfl rfl ⟨_, _, kd_h, rfl, rfl, by decide⟩ ⟨rfl, rfl⟩ ?_
      refine sj_istore_5 C 29 rfl dX7_findOath_27 rfl rfl ?_
      refine sj_iload C 31 rfl dX7_findOath_29 rfl ?_
      refine sj_iload_n C 32 rfl dX7_findOath_31 rfl rfl ?_
      refine sj_icmp_ne C 41 35 rfl rfl dX7_findOath_32 (fun c_32 => ?_) (fun c_32 => ?_)
      · refine sj_iload C 43 rfl dX7_findOath_41 rfl ?_
        refine sj_iload_n C 44 rfl dX7_findOath_43 rfl rfl ?_
        refine sj_icmp_ne C 55 47 rfl rfl dX7_findOath_44 (fun c_44 => ?_) (fun c_44 => ?_)
        · refine sj_iinc_3 C 58 rfl dX7_findOath_55 rfl rfl ?_
          refine sj_goto C 2 rfl dX7_findOath_58 ?_
          have hp : sj_fp (sj_ia S (b 1)) i e k = false := by
            unfold sj_fp
            rw [decide_eq_false c_32, decide_eq_false c_44]
            rfl
          rw [sj_n1]
          refine ih hlt ?_ _ _
          rw [hr, sj_fst_s hlt, hp]
          rfl
        · refine sj_iload C 49 rfl dX7_findOath_47 rfl ?_
          refine sj_iload_n C 50 rfl dX7_findOath_49 rfl rfl ?_
          refine sj_icmp_ne C 55 53 rfl rfl dX7_findOath_50 (fun c_50 => ?_) (fun c_50 => ?_)
          · refine sj_iinc_3 C 58 rfl dX7_findOath_55 rfl rfl ?_
            refine sj_goto C 2 rfl dX7_findOath_58 ?_
            have hp : sj_fp (sj_ia S (b 1)) i e k = false := by
              unfold sj_fp
              rw [decide_eq_false c_32, decide_eq_true c_44, decide_eq_false c_50]
              rfl
            rw [sj_n1]
            refine ih hlt ?_ _ _
            rw [hr, sj_fst_s hlt, hp]
            rfl
          · refine sj_iload_n C 54 rfl dX7_findOath_53 rfl rfl ?_
            refine sj_iret C hR rfl rfl dX7_findOath_54 ?_
            refine ⟨congrArg (fun z => some (Value.int z)) ?_, rfl⟩
            have hp : sj_fp (sj_ia S (b 1)) i e k = true := by
              unfold sj_fp
              rw [decide_eq_false c_32, decide_eq_true c_44, decide_eq_true c_50]
              rfl
            rw [hr, sj_fst_s hlt, hp]
            rfl
      · refine sj_iload C 37 rfl dX7_findOath_35 rfl ?_
        refine sj_iload_n C 38 rfl dX7_findOath_37 rfl rfl ?_
        refine sj_icmp_eq C 53 41 rfl rfl dX7_findOath_38 (fun c_38 => ?_) (fun c_38 => ?_)
        · refine sj_iload_n C 54 rfl dX7_findOath_53 rfl rfl ?_
          refine sj_iret C hR rfl rfl dX7_findOath_54 ?_
          refine ⟨congrArg (fun z => some (Value.int z)) ?_, rfl⟩
          have hp : sj_fp (sj_ia S (b 1)) i e k = true := by
            unfold sj_fp
            rw [decide_eq_true c_32, decide_eq_true c_38]
            rfl
          rw [hr, sj_fst_s hlt, hp]
          rfl
        · refine sj_iload C 43 rfl dX7_findOath_41 rfl ?_
          refine sj_iload_n C 44 rfl dX7_findOath_43 rfl rfl ?_
          refine sj_icmp_ne C 55 47 rfl rfl dX7_findOath_44 (fun c_44 => ?_) (fun c_44 => ?_)
          · refine sj_iinc_3 C 58 rfl dX7_findOath_55 rfl rfl ?_
            refine sj_goto C 2 rfl dX7_findOath_58 ?_
            have hp : sj_fp (sj_ia S (b 1)) i e k = false := by
              unfold sj_fp
              rw [decide_eq_true c_32, decide_eq_false c_38, decide_eq_false c_44]
              rfl
            rw [sj_n1]
            refine ih hlt ?_ _ _
            rw [hr, sj_fst_s hlt, hp]
            rfl
          · refine sj_iload C 49 rfl dX7_findOath_47 rfl ?_
            refine sj_iload_n C 50 rfl dX7_findOath_49 rfl rfl ?_
            refine sj_icmp_ne C 55 53 rfl rfl dX7_findOath_50 (fun c_50 => ?_) (fun c_50 => ?_)
            · refine sj_iinc_3 C 58 rfl dX7_findOath_55 rfl rfl ?_
              refine sj_goto C 2 rfl dX7_findOath_58 ?_
              have hp : sj_fp (sj_ia S (b 1)) i e k = false := by
                unfold sj_fp
                rw [decide_eq_true c_32, decide_eq_false c_38, decide_eq_true c_44, decide_eq_false c_50]
                rfl
              rw [sj_n1]
              refine ih hlt ?_ _ _
              rw [hr, sj_fst_s hlt, hp]
              rfl
            · refine sj_iload_n C 54 rfl dX7_findOath_53 rfl rfl ?_
              refine sj_iret C hR rfl rfl dX7_findOath_54 ?_
              refine ⟨congrArg (fun z => some (Value.int z)) ?_, rfl⟩
              have hp : sj_fp (sj_ia S (b 1)) i e k = true := by
                unfold sj_fp
                rw [decide_eq_true c_32, decide_eq_false c_38, decide_eq_true c_44, decide_eq_true c_50]
                rfl
              rw [hr, sj_fst_s hlt, hp]
              rfl
  refine sj_iconstv C (0) 1 rfl dX7_findOath_0 rfl ?_
  refine sj_istore_n_3 C 2 rfl dX7_findOath_1 rfl rfl ?_
  exact cut_2 rfl none none
set_option maxRecDepth 100000 in
set_option maxHeartbeats 4000000 in
theorem ct_X7_breaks (l : Launch) {S : sj_St} {h : Nat} {b : Nat → Nat} {m : Nat → Int32} (hm : sj_mm S h b m) (hv : sj_oav m) (i e : Nat) (hi : i < 8) (he : e < 8) : sj_Ctr l mX7_breaks [.ref h, .int (nI i), .int (nI e)] S (sj_scr (some (.int (sj_bi (sj_brk m i e (sj_tn (m 10)))))) S b) := by
  refine sj_start ([some (.ref h), some (.int (nI i)), some (.int (nI e)), none, none]) (by decide +kernel) rfl rfl (fun X hX C hR => ?_)
  subst hX
  have hm0 := hm
  obtain ⟨hm', em⟩ := hm0
  subst em
  obtain ⟨kd_h, ⟨rf_h_1, kd_a1, il_a1⟩, ⟨rf_h_2, kd_a2, il_a2⟩, ⟨rf_h_3, kd_a3, il_a3⟩, ⟨rf_h_5, kd_a5, il_a5⟩, ⟨rf_h_7, kd_a7, il_a7⟩, ⟨rf_h_13, kd_a13, il_a13⟩, ⟨rf_h_15, kd_a15, il_a15⟩, hinj⟩ := hm'
  obtain ⟨⟨h9, hn8⟩, ⟨h10, hn28⟩, hoa⟩ := id hv
  have hmA := sj_mm_15 hm (sj_cp 8 (sj_hH (sj_ia S (b 1)) (-1)) (sj_ia S (b 15)))
  have er : ∀ k9, k9 < 8 → sj_ia (sj_sIa S (b 15) (sj_cp 8 (sj_hH (sj_ia S (b 1)) (-1)) (sj_ia S (b 15)))) (b 15) (nI k9).toNatClampNeg = sj_hH (sj_ia S (b 1)) (-1) k9 := fun k9 hk => by
    rw [sj_ia_sIa, nI_clamp (by omega)]
    exact if_pos hk
  have e1 : sj_ia (sj_sIa S (b 15) (sj_cp 8 (sj_hH (sj_ia S (b 1)) (-1)) (sj_ia S (b 15)))) (b 1) = (sj_ia S (b 1)) := sj_ia_sIa_ne S _ (sj_mo_ne hm.1 (by omega) (by omega) (by omega))
  have eJ : (sj_sIa (sj_sIa S (b 15) (sj_cp 8 (sj_hH (sj_ia S (b 1)) (-1)) (sj_ia S (b 15)))) (b 15) (sj_jn (sj_tn ((sj_ia S (b 1)) 9)) (sj_ia (sj_sIa S (b 15) (sj_cp 8 (sj_hH (sj_ia S (b 1)) (-1)) (sj_ia S (b 15)))) (b 15)) (sj_ia (sj_sIa S (b 15) (sj_cp 8 (sj_hH (sj_ia S (b 1)) (-1)) (sj_ia S (b 15)))) (b 15) i) (sj_ia (sj_sIa S (b 15) (sj_cp 8 (sj_hH (sj_ia S (b 1)) (-1)) (sj_ia S (b 15)))) (b 15) e))) = sj_sIa S (b 15) (sj_cp 8 (sj_jH (sj_ia S (b 1)) i e) (sj_ia S (b 15))) := by
    rw [sj_sIa_sIa, sj_ia_sIa, sj_jn_cp hn8 hi he]
    rfl
  have hmB := sj_mm_15 hm (sj_cp 8 (sj_jH (sj_ia S (b 1)) i e) (sj_ia S (b 15)))
  have erB : ∀ k, k < 8 → sj_ia (sj_sIa S (b 15) (sj_cp 8 (sj_jH (sj_ia S (b 1)) i e) (sj_ia S (b 15)))) (b 15) (nI k).toNatClampNeg = sj_jH (sj_ia S (b 1)) i e k := fun k hk => by
    rw [sj_ia_sIa, nI_clamp (by omega)]
    exact if_pos hk
  have e1B : sj_ia (sj_sIa S (b 15) (sj_cp 8 (sj_jH (sj_ia S (b 1)) i e) (sj_ia S (b 15)))) (b 1) = (sj_ia S (b 1)) := sj_ia_sIa_ne S _ (sj_mo_ne hm.1 (by omega) (by omega) (by omega))
  have cut_16 : sj_G X (sj_sIa S (b 15) (sj_cp 8 (sj_jH (sj_ia S (b 1)) i e) (sj_ia S (b 15)))) 0 0 [some (.ref h), some (.int (nI i)), some (.int (nI e)), some (.int (sj_bi (sj_brk (sj_ia S (b 1)) i e 0))), some (.int (nI 0))] 16 [] := by
    refine sj_down (fun k => sj_G X (sj_sIa S (b 15) (sj_cp 8 (sj_jH (sj_ia S (b 1)) i e) (sj_ia S (b 15)))) 0 0 [some (.ref h), some (.int (nI i)), some (.int (nI e)), some (.int (sj_bi (sj_brk (sj_ia S (b 1)) i e k))), some (.int (nI k))] 16 []) (sj_tn ((sj_ia S (b 1)) 10)) (fun k hk ih => ?_)
    refine sj_iload C 18 rfl dX7_breaks_16 rfl ?_
    refine sj_aload_n C 19 rfl dX7_breaks_18 rfl rfl ?_
    refine sj_getr C 22 rfl fd_X7_7 dX7_breaks_19 kd_h rf_h_1 ?_
    refine sj_bipush C (10) 24 rfl dX7_breaks_22 (by decide) ?_
    refine sj_iald C 25 rfl dX7_breaks_24 kd_a1 (by show vp_in (nI 10) (sj_il S (b 1)); rw [il_a1]; exact vp_in_nI (by omega) (by omega)) ?_
    rw [show Int32.toNatClampNeg (10) = 10 from rfl, e1B, h10]
    refine sj_icmp_ge C 81 28 rfl rfl dX7_breaks_25 (fun c_25 => ?_) (fun c_25 => ?_)
    · refine sj_iload_n C 82 rfl dX7_breaks_81 rfl rfl ?_
      refine sj_zret C hR rfl (sj_binar _) rfl dX7_breaks_82 ?_
      have hkn : k = sj_tn ((sj_ia S (b 1)) 10) := by
        have h8 : ¬ k < sj_tn ((sj_ia S (b 1)) 10) := fun h7 => nI_ge h7 (by omega) c_25
        omega
      subst hkn
      refine ⟨congrArg (fun z => some (Value.int z)) ?_, _, rfl⟩
      rfl
    · have hlt : k < sj_tn ((sj_ia S (b 1)) 10) := Nat.not_le.mp fun h8 => c_25 (nI_le h8 (by omega))
      obtain ⟨⟨ho0, ho0n⟩, ⟨ho1, ho1n⟩, ho2⟩ := hoa k hlt
      refine sj_iload_n C 29 rfl dX7_breaks_28 rfl rfl ?_
      refine sj_if_ne C 69 32 rfl rfl dX7_breaks_29 (fun c_29 => ?_) (fun c_29 => ?_)
      · refine sj_iconstv C (1) 70 rfl dX7_breaks_69 rfl ?_
        refine sj_goto C 74 rfl dX7_breaks_70 ?_
        refine sj_istore_n_3 C 75 rfl dX7_breaks_74 rfl rfl ?_
        refine sj_iinc_4 C 78 rfl dX7_breaks_75 rfl rfl ?_
        refine sj_goto C 16 rfl dX7_breaks_78 ?_
        have e9 : sj_bi (sj_brk (sj_ia S (b 1)) i e (k + 1)) = 1 := by
          show sj_bi (_ || (_ && _)) = _
          rw [sj_bin.mp c_29]
          rfl
        have ih' := ih hlt
        rw [e9] at ih'
        rw [sj_n1]
        exact ih'
      · refine sj_aload_n C 33 rfl dX7_breaks_32 rfl rfl ?_
        refine sj_iload C 35 rfl dX7_breaks_33 rfl ?_
        refine sj_iconstv C (2) 36 rfl dX7_breaks_35 rfl ?_
        refine sj_callVd C 39 rfl dX7_breaks_36 cv_X7_98 rfl (ct_X7_ofOath _ hmB k 2 (by omega) (by omega)) rfl rfl rfl ⟨_, _, kd_h, rfl, rfl, by decide⟩ ⟨rfl, rfl⟩ ?_
        refine sj_if_ne C 73 42 rfl rfl dX7_breaks_39 (fun c_39 => ?_) (fun c_39 => ?_)
        · refine sj_iconstv C (0) 74 rfl dX7_breaks_73 rfl ?_
          refine sj_istore_n_3 C 75 rfl dX7_breaks_74 rfl rfl ?_
          refine sj_iinc_4 C 78 rfl dX7_breaks_75 rfl rfl ?_
          refine sj_goto C 16 rfl dX7_breaks_78 ?_
          have e9 : sj_bi (sj_brk (sj_ia S (b 1)) i e (k + 1)) = 0 := by
            show sj_bi (_ || (_ && _)) = _
            rw [sj_bi0.mp c_29, decide_eq_false c_39]
            rfl
          have ih' := ih hlt
          rw [e9] at ih'
          rw [sj_n1]
          exact ih'
        · refine sj_aload_n C 43 rfl dX7_breaks_42 rfl rfl ?_
          refine sj_getr C 46 rfl fd_X7_28 dX7_breaks_43 kd_h rf_h_15 ?_
          refine sj_aload_n C 47 rfl dX7_breaks_46 rfl rfl ?_
          refine sj_iload C 49 rfl dX7_breaks_47 rfl ?_
          refine sj_iconstv C (0) 50 rfl dX7_breaks_49 rfl ?_
          refine sj_callVd C 53 rfl dX7_breaks_50 cv_X7_98 rfl (ct_X7_ofOath _ hmB k 0 (by omega) (by omega)) rfl rfl rfl ⟨_, _, kd_h, rfl, rfl, by decide⟩ ⟨rfl, rfl⟩ ?_
          rw [ho0]
          refine sj_iald C 54 rfl dX7_breaks_53 kd_a15 (by show vp_in (nI (sj_tn (sj_oa (sj_ia S (b 1)) k 0))) (sj_il S (b 15)); rw [il_a15]; exact vp_in_nI (by omega : sj_tn (sj_oa (sj_ia S (b 1)) k 0) < 8) (by omega)) ?_
          rw [erB _ (by omega)]
          refine sj_aload_n C 55 rfl dX7_breaks_54 rfl rfl ?_
          refine sj_getr C 58 rfl fd_X7_28 dX7_breaks_55 kd_h rf_h_15 ?_
          refine sj_aload_n C 59 rfl dX7_breaks_58 rfl rfl ?_
          refine sj_iload C 61 rfl dX7_breaks_59 rfl ?_
          refine sj_iconstv C (1) 62 rfl dX7_breaks_61 rfl ?_
          refine sj_callVd C 65 rfl dX7_breaks_62 cv_X7_98 rfl (ct_X7_ofOath _ hmB k 1 (by omega) (by omega)) rfl rfl rfl ⟨_, _, kd_h, rfl, rfl, by decide⟩ ⟨rfl, rfl⟩ ?_
          rw [ho1]
          refine sj_iald C 66 rfl dX7_breaks_65 kd_a15 (by show vp_in (nI (sj_tn (sj_oa (sj_ia S (b 1)) k 1))) (sj_il S (b 15)); rw [il_a15]; exact vp_in_nI (by omega : sj_tn (sj_oa (sj_ia S (b 1)) k 1) < 8) (by omega)) ?_
          rw [erB _ (by omega)]
          refine sj_icmp_ne C 73 69 rfl rfl dX7_breaks_66 (fun c_66 => ?_) (fun c_66 => ?_)
          · refine sj_iconstv C (0) 74 rfl dX7_breaks_73 rfl ?_
            refine sj_istore_n_3 C 75 rfl dX7_breaks_74 rfl rfl ?_
            refine sj_iinc_4 C 78 rfl dX7_breaks_75 rfl rfl ?_
            refine sj_goto C 16 rfl dX7_breaks_78 ?_
            have e9 : sj_bi (sj_brk (sj_ia S (b 1)) i e (k + 1)) = 0 := by
              show sj_bi (_ || (_ && _)) = _
              rw [sj_bi0.mp c_29, decide_eq_true c_39, decide_eq_false c_66]
              rfl
            have ih' := ih hlt
            rw [e9] at ih'
            rw [sj_n1]
            exact ih'
          · refine sj_iconstv C (1) 70 rfl dX7_breaks_69 rfl ?_
            refine sj_goto C 74 rfl dX7_breaks_70 ?_
            refine sj_istore_n_3 C 75 rfl dX7_breaks_74 rfl rfl ?_
            refine sj_iinc_4 C 78 rfl dX7_breaks_75 rfl rfl ?_
            refine sj_goto C 16 rfl dX7_breaks_78 ?_
            have e9 : sj_bi (sj_brk (sj_ia S (b 1)) i e (k + 1)) = 1 := by
              show sj_bi (_ || (_ && _)) = _
              rw [sj_bi0.mp c_29, decide_eq_true c_39, decide_eq_true c_66]
              rfl
            have ih' := ih hlt
            rw [e9] at ih'
            rw [sj_n1]
            exact ih'
  refine sj_aload_n C 1 rfl dX7_breaks_0 rfl rfl ?_
  refine sj_iconstv C (-1) 2 rfl dX7_breaks_1 rfl ?_
  refine sj_callVv C 5 rfl dX7_breaks_2 cv_X7_105 rfl (ct_X7_layHands _ hm (-1) hv) rfl rfl rfl ⟨_, _, kd_h, rfl, rfl, by decide⟩ ⟨rfl, rfl⟩ ?_
  refine sj_aload_n C 6 rfl dX7_breaks_5 rfl rfl ?_
  refine sj_iload_n C 7 rfl dX7_breaks_6 rfl rfl ?_
  refine sj_iload_n C 8 rfl dX7_breaks_7 rfl rfl ?_
  refine sj_callVv C 11 rfl dX7_breaks_8 cv_X7_101 rfl (ct_X7_join _ hmA i e (sj_tn ((sj_ia S (b 1)) 9)) hi he h9 hn8) rfl rfl rfl ⟨_, _, kd_h, rfl, rfl, by decide⟩ ⟨rfl, rfl⟩ ?_
  rw [eJ]
  refine sj_iconstv C (0) 12 rfl dX7_breaks_11 rfl ?_
  refine sj_istore_n_3 C 13 rfl dX7_breaks_12 rfl rfl ?_
  refine sj_iconstv C (0) 14 rfl dX7_breaks_13 rfl ?_
  refine sj_istore_4 C 16 rfl dX7_breaks_14 rfl rfl ?_
  exact cut_16
set_option maxRecDepth 100000 in
set_option maxHeartbeats 4000000 in
theorem ct_X7_whyNotSworn (l : Launch) {S : sj_St} {h : Nat} {b : Nat → Nat} {m : Nat → Int32} (hm : sj_mm S h b m) (hv : sj_oav m) (i e : Nat) (hvi : sj_shv m i) (hve : sj_shv m e) (like : Bool) : sj_Ctr l mX7_whyNotSworn [.ref h, .int (nI i), .int (nI e), .int (sj_bi like)] S (sj_scr (some (.int (sj_why m i e like))) S b) := by
  refine sj_start ([some (.ref h), some (.int (nI i)), some (.int (nI e)), some (.int (sj_bi like))]) (by decide +kernel) rfl rfl (fun X hX C hR => ?_)
  subst hX
  have hm0 := hm
  obtain ⟨hm', em⟩ := hm0
  subst em
  obtain ⟨kd_h, ⟨rf_h_1, kd_a1, il_a1⟩, ⟨rf_h_2, kd_a2, il_a2⟩, ⟨rf_h_3, kd_a3, il_a3⟩, ⟨rf_h_5, kd_a5, il_a5⟩, ⟨rf_h_7, kd_a7, il_a7⟩, ⟨rf_h_13, kd_a13, il_a13⟩, ⟨rf_h_15, kd_a15, il_a15⟩, hinj⟩ := hm'
  obtain ⟨⟨h9, hn8⟩, ⟨h10, hn28⟩, hoa⟩ := id hv
  have hi := hvi.1
  have he := hve.1
  refine sj_iload_n C 1 rfl dX7_whyNotSworn_0 rfl rfl ?_
  refine sj_iload_n C 2 rfl dX7_whyNotSworn_1 rfl rfl ?_
  refine sj_icmp_ne C 7 5 rfl rfl dX7_whyNotSworn_2 (fun c_2 => ?_) (fun c_2 => ?_)
  · refine sj_aload_n C 8 rfl dX7_whyNotSworn_7 rfl rfl ?_
    refine sj_iload_n C 9 rfl dX7_whyNotSworn_8 rfl rfl ?_
    refine sj_iload_n C 10 rfl dX7_whyNotSworn_9 rfl rfl ?_
    refine sj_callVd C 13 rfl dX7_whyNotSworn_10 cv_X7_109 rfl (ct_X7_findOath _ hm hv i e) rfl rfl rfl ⟨_, _, kd_h, rfl, rfl, by decide⟩ ⟨rfl, rfl⟩ ?_
    refine sj_iconstv C (-1) 14 rfl dX7_whyNotSworn_13 rfl ?_
    refine sj_icmp_eq C 19 17 rfl rfl dX7_whyNotSworn_14 (fun c_14 => ?_) (fun c_14 => ?_)
    · refine sj_iload_n C 20 rfl dX7_whyNotSworn_19 rfl rfl ?_
      refine sj_if_ne C 39 23 rfl rfl dX7_whyNotSworn_20 (fun c_20 => ?_) (fun c_20 => ?_)
      · refine sj_aload_n C 40 rfl dX7_whyNotSworn_39 rfl rfl ?_
        refine sj_iload_n C 41 rfl dX7_whyNotSworn_40 rfl rfl ?_
        refine sj_callVd C 44 rfl dX7_whyNotSworn_41 cv_X7_116 rfl (ct_X7_trembles _ hm i hvi) rfl rfl rfl ⟨_, _, kd_h, rfl, rfl, by decide⟩ ⟨rfl, rfl⟩ ?_
        refine sj_if_ne C 55 47 rfl rfl dX7_whyNotSworn_44 (fun c_44 => ?_) (fun c_44 => ?_)
        · refine sj_iconstv C (3) 56 rfl dX7_whyNotSworn_55 rfl ?_
          refine sj_iret C hR rfl rfl dX7_whyNotSworn_56 ?_
          refine ⟨congrArg (fun z => some (Value.int z)) ?_, _, (sj_sIa_id S (b 15)).symm⟩
          unfold sj_why
          rw [if_neg (fun e9 => c_2 (by rw [e9])), if_neg (fun e9 => e9 c_14), if_neg (fun e9 => c_20 (sj_bi0.mpr e9)), sj_bin.mp c_44]
          rfl
        · refine sj_aload_n C 48 rfl dX7_whyNotSworn_47 rfl rfl ?_
          refine sj_iload_n C 49 rfl dX7_whyNotSworn_48 rfl rfl ?_
          refine sj_callVd C 52 rfl dX7_whyNotSworn_49 cv_X7_116 rfl (ct_X7_trembles _ hm e hve) rfl rfl rfl ⟨_, _, kd_h, rfl, rfl, by decide⟩ ⟨rfl, rfl⟩ ?_
          refine sj_if_eq C 57 55 rfl rfl dX7_whyNotSworn_52 (fun c_52 => ?_) (fun c_52 => ?_)
          · refine sj_aload_n C 58 rfl dX7_whyNotSworn_57 rfl rfl ?_
            refine sj_iload_n C 59 rfl dX7_whyNotSworn_58 rfl rfl ?_
            refine sj_iload_n C 60 rfl dX7_whyNotSworn_59 rfl rfl ?_
            refine sj_callVd C 63 rfl dX7_whyNotSworn_60 cv_X7_119 rfl (ct_X7_likeness _ hm i e hvi hve) rfl rfl rfl ⟨_, _, kd_h, rfl, rfl, by decide⟩ ⟨rfl, rfl⟩ ?_
            refine sj_aload_n C 64 rfl dX7_whyNotSworn_63 rfl rfl ?_
            refine sj_getr C 67 rfl fd_X7_7 dX7_whyNotSworn_64 kd_h rf_h_1 ?_
            refine sj_bipush C (8) 69 rfl dX7_whyNotSworn_67 (by decide) ?_
            refine sj_iald C 70 rfl dX7_whyNotSworn_69 kd_a1 (by show vp_in (nI 8) (sj_il S (b 1)); rw [il_a1]; exact vp_in_nI (by omega) (by omega)) ?_
            rw [show Int32.toNatClampNeg (8) = 8 from rfl]
            refine sj_icmp_ge C 77 73 rfl rfl dX7_whyNotSworn_70 (fun c_70 => ?_) (fun c_70 => ?_)
            · refine sj_aload_n C 78 rfl dX7_whyNotSworn_77 rfl rfl ?_
              refine sj_iload_n C 79 rfl dX7_whyNotSworn_78 rfl rfl ?_
              refine sj_iload_n C 80 rfl dX7_whyNotSworn_79 rfl rfl ?_
              refine sj_callVp C 83 rfl dX7_whyNotSworn_80 cv_X7_122 rfl (ct_X7_breaks _ hm hv i e hi he) rfl rfl rfl ⟨_, _, kd_h, rfl, rfl, by decide⟩ ⟨rfl, rfl⟩ (fun v_80 S_80 hp_80 => ?_)
              obtain ⟨rfl, g_80, rfl⟩ := hp_80
              refine sj_if_eq C 90 86 rfl rfl dX7_whyNotSworn_83 (fun c_83 => ?_) (fun c_83 => ?_)
              · refine sj_iconstv C (0) 91 rfl dX7_whyNotSworn_90 rfl ?_
                refine sj_iret C hR rfl rfl dX7_whyNotSworn_91 ?_
                refine ⟨congrArg (fun z => some (Value.int z)) ?_, _, rfl⟩
                unfold sj_why
                rw [if_neg (fun e9 => c_2 (by rw [e9])), if_neg (fun e9 => e9 c_14), if_neg (fun e9 => c_20 (sj_bi0.mpr e9)), sj_bi0.mp c_44, sj_bi0.mp c_52, Bool.or_self, if_neg Bool.false_ne_true, if_neg (sj_nlt.mpr c_70), sj_bi0.mp c_83]
                rfl
              · refine sj_iconstv C (5) 87 rfl dX7_whyNotSworn_86 rfl ?_
                refine sj_goto C 91 rfl dX7_whyNotSworn_87 ?_
                refine sj_iret C hR rfl rfl dX7_whyNotSworn_91 ?_
                refine ⟨congrArg (fun z => some (Value.int z)) ?_, _, rfl⟩
                unfold sj_why
                rw [if_neg (fun e9 => c_2 (by rw [e9])), if_neg (fun e9 => e9 c_14), if_neg (fun e9 => c_20 (sj_bi0.mpr e9)), sj_bi0.mp c_44, sj_bi0.mp c_52, Bool.or_self, if_neg Bool.false_ne_true, if_neg (sj_nlt.mpr c_70), sj_bin.mp c_83]
                rfl
            · refine sj_iconstv C (4) 74 rfl dX7_whyNotSworn_73 rfl ?_
              refine sj_goto C 91 rfl dX7_whyNotSworn_74 ?_
              refine sj_iret C hR rfl rfl dX7_whyNotSworn_91 ?_
              refine ⟨congrArg (fun z => some (Value.int z)) ?_, _, (sj_sIa_id S (b 15)).symm⟩
              unfold sj_why
              rw [if_neg (fun e9 => c_2 (by rw [e9])), if_neg (fun e9 => e9 c_14), if_neg (fun e9 => c_20 (sj_bi0.mpr e9)), sj_bi0.mp c_44, sj_bi0.mp c_52, Bool.or_self, if_neg Bool.false_ne_true, if_pos (sj_nle.mp c_70)]
          · refine sj_iconstv C (3) 56 rfl dX7_whyNotSworn_55 rfl ?_
            refine sj_iret C hR rfl rfl dX7_whyNotSworn_56 ?_
            refine ⟨congrArg (fun z => some (Value.int z)) ?_, _, (sj_sIa_id S (b 15)).symm⟩
            unfold sj_why
            rw [if_neg (fun e9 => c_2 (by rw [e9])), if_neg (fun e9 => e9 c_14), if_neg (fun e9 => c_20 (sj_bi0.mpr e9)), sj_bi0.mp c_44, sj_bin.mp c_52]
            rfl
      · refine sj_aload_n C 24 rfl dX7_whyNotSworn_23 rfl rfl ?_
        refine sj_iload_n C 25 rfl dX7_whyNotSworn_24 rfl rfl ?_
        refine sj_iload_n C 26 rfl dX7_whyNotSworn_25 rfl rfl ?_
        refine sj_callVp C 29 rfl dX7_whyNotSworn_26 cv_X7_112 rfl (ct_X7_areOfOne _ hm hv i e hi he) rfl rfl rfl ⟨_, _, kd_h, rfl, rfl, by decide⟩ ⟨rfl, rfl⟩ (fun v_26 S_26 hp_26 => ?_)
        obtain ⟨rfl, g_26, rfl⟩ := hp_26
        refine sj_if_eq C 37 32 rfl rfl dX7_whyNotSworn_29 (fun c_29 => ?_) (fun c_29 => ?_)
        · refine sj_iconstv C (0) 38 rfl dX7_whyNotSworn_37 rfl ?_
          refine sj_iret C hR rfl rfl dX7_whyNotSworn_38 ?_
          refine ⟨congrArg (fun z => some (Value.int z)) ?_, _, rfl⟩
          unfold sj_why
          rw [if_neg (fun e9 => c_2 (by rw [e9])), if_neg (fun e9 => e9 c_14), if_pos (sj_bi0.mp c_20), sj_bi0.mp c_29]
          rfl
        · refine sj_bipush C (6) 34 rfl dX7_whyNotSworn_32 (by decide) ?_
          refine sj_goto C 38 rfl dX7_whyNotSworn_34 ?_
          refine sj_iret C hR rfl rfl dX7_whyNotSworn_38 ?_
          refine ⟨congrArg (fun z => some (Value.int z)) ?_, _, rfl⟩
          unfold sj_why
          rw [if_neg (fun e9 => c_2 (by rw [e9])), if_neg (fun e9 => e9 c_14), if_pos (sj_bi0.mp c_20), sj_bin.mp c_29]
          rfl
    · refine sj_iconstv C (2) 18 rfl dX7_whyNotSworn_17 rfl ?_
      refine sj_iret C hR rfl rfl dX7_whyNotSworn_18 ?_
      refine ⟨congrArg (fun z => some (Value.int z)) ?_, _, (sj_sIa_id S (b 15)).symm⟩
      unfold sj_why
      rw [if_neg (fun e9 => c_2 (by rw [e9])), if_pos c_14]
  · refine sj_iconstv C (1) 6 rfl dX7_whyNotSworn_5 rfl ?_
    refine sj_iret C hR rfl rfl dX7_whyNotSworn_6 ?_
    refine ⟨congrArg (fun z => some (Value.int z)) ?_, _, (sj_sIa_id S (b 15)).symm⟩
    unfold sj_why
    rw [if_pos ((nI_eq (by omega) (by omega)).mp c_2)]
set_option maxRecDepth 100000 in
set_option maxHeartbeats 4000000 in
theorem ct_X7_holds (l : Launch) {S : sj_St} {h : Nat} {b : Nat → Nat} {m : Nat → Int32} (hm : sj_mm S h b m) (hv : sj_oav m) (k : Nat) (hlt : k < sj_tn (m 10)) : sj_Ctr l mX7_holds [.ref h, .int (nI k)] S (sj_scr (some (.int (sj_bi (sj_hld m k)))) S b) := by
  refine sj_start ([some (.ref h), some (.int (nI k))]) (by decide +kernel) rfl rfl (fun X hX C hR => ?_)
  subst hX
  have hm0 := hm
  obtain ⟨hm', em⟩ := hm0
  subst em
  obtain ⟨kd_h, ⟨rf_h_1, kd_a1, il_a1⟩, ⟨rf_h_2, kd_a2, il_a2⟩, ⟨rf_h_3, kd_a3, il_a3⟩, ⟨rf_h_5, kd_a5, il_a5⟩, ⟨rf_h_7, kd_a7, il_a7⟩, ⟨rf_h_13, kd_a13, il_a13⟩, ⟨rf_h_15, kd_a15, il_a15⟩, hinj⟩ := hm'
  obtain ⟨⟨h9, hn8⟩, ⟨h10, hn28⟩, hoa⟩ := id hv
  have hmA := sj_mm_15 hm (sj_cp 8 (sj_hH (sj_ia S (b 1)) (nI k)) (sj_ia S (b 15)))
  have er : ∀ k9, k9 < 8 → sj_ia (sj_sIa S (b 15) (sj_cp 8 (sj_hH (sj_ia S (b 1)) (nI k)) (sj_ia S (b 15)))) (b 15) (nI k9).toNatClampNeg = sj_hH (sj_ia S (b 1)) (nI k) k9 := fun k9 hk => by
    rw [sj_ia_sIa, nI_clamp (by omega)]
    exact if_pos hk
  have e1 : sj_ia (sj_sIa S (b 15) (sj_cp 8 (sj_hH (sj_ia S (b 1)) (nI k)) (sj_ia S (b 15)))) (b 1) = (sj_ia S (b 1)) := sj_ia_sIa_ne S _ (sj_mo_ne hm.1 (by omega) (by omega) (by omega))
  obtain ⟨⟨ho0, ho0n⟩, ⟨ho1, ho1n⟩, ho2⟩ := hoa k hlt
  refine sj_aload_n C 1 rfl dX7_holds_0 rfl rfl ?_
  refine sj_iload_n C 2 rfl dX7_holds_1 rfl rfl ?_
  refine sj_callVv C 5 rfl dX7_holds_2 cv_X7_105 rfl (ct_X7_layHands _ hm (nI k) hv) rfl rfl rfl ⟨_, _, kd_h, rfl, rfl, by decide⟩ ⟨rfl, rfl⟩ ?_
  refine sj_aload_n C 6 rfl dX7_holds_5 rfl rfl ?_
  refine sj_iload_n C 7 rfl dX7_holds_6 rfl rfl ?_
  refine sj_iconstv C (2) 8 rfl dX7_holds_7 rfl ?_
  refine sj_callVd C 11 rfl dX7_holds_8 cv_X7_98 rfl (ct_X7_ofOath _ hmA k 2 (by omega) (by omega)) rfl rfl rfl ⟨_, _, kd_h, rfl, rfl, by decide⟩ ⟨rfl, rfl⟩ ?_
  refine sj_iconstv C (1) 12 rfl dX7_holds_11 rfl ?_
  refine sj_icmp_ne C 44 15 rfl rfl dX7_holds_12 (fun c_12 => ?_) (fun c_12 => ?_)
  · refine sj_iconstv C (0) 45 rfl dX7_holds_44 rfl ?_
    refine sj_zret C hR rfl rfl rfl dX7_holds_45 ?_
    refine ⟨congrArg (fun z => some (Value.int z)) ?_, _, rfl⟩
    unfold sj_hld
    rw [decide_eq_false c_12]
    rfl
  · refine sj_aload_n C 16 rfl dX7_holds_15 rfl rfl ?_
    refine sj_getr C 19 rfl fd_X7_28 dX7_holds_16 kd_h rf_h_15 ?_
    refine sj_aload_n C 20 rfl dX7_holds_19 rfl rfl ?_
    refine sj_iload_n C 21 rfl dX7_holds_20 rfl rfl ?_
    refine sj_iconstv C (0) 22 rfl dX7_holds_21 rfl ?_
    refine sj_callVd C 25 rfl dX7_holds_22 cv_X7_98 rfl (ct_X7_ofOath _ hmA k 0 (by omega) (by omega)) rfl rfl rfl ⟨_, _, kd_h, rfl, rfl, by decide⟩ ⟨rfl, rfl⟩ ?_
    rw [ho0]
    refine sj_iald C 26 rfl dX7_holds_25 kd_a15 (by show vp_in (nI (sj_tn (sj_oa (sj_ia S (b 1)) k 0))) (sj_il S (b 15)); rw [il_a15]; exact vp_in_nI (by omega : sj_tn (sj_oa (sj_ia S (b 1)) k 0) < 8) (by omega)) ?_
    rw [er _ (by omega)]
    refine sj_aload_n C 27 rfl dX7_holds_26 rfl rfl ?_
    refine sj_getr C 30 rfl fd_X7_28 dX7_holds_27 kd_h rf_h_15 ?_
    refine sj_aload_n C 31 rfl dX7_holds_30 rfl rfl ?_
    refine sj_iload_n C 32 rfl dX7_holds_31 rfl rfl ?_
    refine sj_iconstv C (1) 33 rfl dX7_holds_32 rfl ?_
    refine sj_callVd C 36 rfl dX7_holds_33 cv_X7_98 rfl (ct_X7_ofOath _ hmA k 1 (by omega) (by omega)) rfl rfl rfl ⟨_, _, kd_h, rfl, rfl, by decide⟩ ⟨rfl, rfl⟩ ?_
    rw [ho1]
    refine sj_iald C 37 rfl dX7_holds_36 kd_a15 (by show vp_in (nI (sj_tn (sj_oa (sj_ia S (b 1)) k 1))) (sj_il S (b 15)); rw [il_a15]; exact vp_in_nI (by omega : sj_tn (sj_oa (sj_ia S (b 1)) k 1) < 8) (by omega)) ?_
    rw [er _ (by omega)]
    refine sj_icmp_eq C 44 40 rfl rfl dX7_holds_37 (fun c_37 => ?_) (fun c_37 => ?_)
    · refine sj_iconstv C (0) 45 rfl dX7_holds_44 rfl ?_
      refine sj_zret C hR rfl rfl rfl dX7_holds_45 ?_
      refine ⟨congrArg (fun z => some (Value.int z)) ?_, _, rfl⟩
      unfold sj_hld
      rw [decide_eq_true c_12, decide_eq_false (fun e9 => e9 c_37)]
      rfl
    · refine sj_iconstv C (1) 41 rfl dX7_holds_40 rfl ?_
      refine sj_goto C 45 rfl dX7_holds_41 ?_
      refine sj_zret C hR rfl rfl rfl dX7_holds_45 ?_
      refine ⟨congrArg (fun z => some (Value.int z)) ?_, _, rfl⟩
      unfold sj_hld
      rw [decide_eq_true c_12, decide_eq_true c_37]
      rfl
set_option maxRecDepth 100000 in
set_option maxHeartbeats 4000000 in
theorem ct_X7_oathsOf (l : Launch) {S : sj_St} {h : Nat} {b : Nat → Nat} {m : Nat → Int32} (hm : sj_mm S h b m) (hv : sj_oav m) (i : Nat) : sj_Ctr l mX7_oathsOf [.ref h, .int (nI i)] S (sj_eq (some (.int (sj_oof m i))) S) := by
  refine sj_start ([some (.ref h), some (.int (nI i)), none, none]) (by decide +kernel) rfl rfl (fun X hX C hR => ?_)
  subst hX
  have hm0 := hm
  obtain ⟨hm', em⟩ := hm0
  subst em
  obtain ⟨kd_h, ⟨rf_h_1, kd_a1, il_a1⟩, ⟨rf_h_2, kd_a2, il_a2⟩, ⟨rf_h_3, kd_a3, il_a3⟩, ⟨rf_h_5, kd_a5, il_a5⟩, ⟨rf_h_7, kd_a7, il_a7⟩, ⟨rf_h_13, kd_a13, il_a13⟩, ⟨rf_h_15, kd_a15, il_a15⟩, hinj⟩ := hm'
  obtain ⟨⟨h9, hn8⟩, ⟨h10, hn28⟩, hoa⟩ := id hv
  have cut_4 : sj_G X S 0 0 [some (.ref h), some (.int (nI i)), some (.int (sj_sum (fun k => sj_bi (decide (sj_oa (sj_ia S (b 1)) k 0 = nI i) || decide (sj_oa (sj_ia S (b 1)) k 1 = nI i))) 0)), some (.int (nI 0))] 4 [] := by
    refine sj_down (fun k => sj_G X S 0 0 [some (.ref h), some (.int (nI i)), some (.int (sj_sum (fun k => sj_bi (decide (sj_oa (sj_ia S (b 1)) k 0 = nI i) || decide (sj_oa (sj_ia S (b 1)) k 1 = nI i))) k)), some (.int (nI k))] 4 []) (sj_tn ((sj_ia S (b 1)) 10)) (fun k hk ih => ?_)
    refine sj_iload_n C 5 rfl dX7_oathsOf_4 rfl rfl ?_
    refine sj_aload_n C 6 rfl dX7_oathsOf_5 rfl rfl ?_
    refine sj_getr C 9 rfl fd_X7_7 dX7_oathsOf_6 kd_h rf_h_1 ?_
    refine sj_bipush C (10) 11 rfl dX7_oathsOf_9 (by decide) ?_
    refine sj_iald C 12 rfl dX7_oathsOf_11 kd_a1 (by show vp_in (nI 10) (sj_il S (b 1)); rw [il_a1]; exact vp_in_nI (by omega) (by omega)) ?_
    rw [show Int32.toNatClampNeg (10) = 10 from rfl, h10]
    refine sj_icmp_ge C 49 15 rfl rfl dX7_oathsOf_12 (fun c_12 => ?_) (fun c_12 => ?_)
    · refine sj_iload_n C 50 rfl dX7_oathsOf_49 rfl rfl ?_
      refine sj_iret C hR rfl rfl dX7_oathsOf_50 ?_
      have hkn : k = sj_tn ((sj_ia S (b 1)) 10) := by
        have h8 : ¬ k < sj_tn ((sj_ia S (b 1)) 10) := fun h7 => nI_ge h7 (by omega) c_12
        omega
      subst hkn
      exact ⟨rfl, rfl⟩
    · have hlt : k < sj_tn ((sj_ia S (b 1)) 10) := Nat.not_le.mp fun h8 => c_12 (nI_le h8 (by omega))
      refine sj_iload_n C 16 rfl dX7_oathsOf_15 rfl rfl ?_
      refine sj_aload_n C 17 rfl dX7_oathsOf_16 rfl rfl ?_
      refine sj_iload_n C 18 rfl dX7_oathsOf_17 rfl rfl ?_
      refine sj_iconstv C (0) 19 rfl dX7_oathsOf_18 rfl ?_
      refine sj_callVd C 22 rfl dX7_oathsOf_19 cv_X7_98 rfl (ct_X7_ofOath _ hm k 0 (by omega) (by omega)) rfl rfl rfl ⟨_, _, kd_h, rfl, rfl, by decide⟩ ⟨rfl, rfl⟩ ?_
      refine sj_iload_n C 23 rfl dX7_oathsOf_22 rfl rfl ?_
      refine sj_icmp_eq C 36 26 rfl rfl dX7_oathsOf_23 (fun c_23 => ?_) (fun c_23 => ?_)
      · refine sj_iconstv C (1) 37 rfl dX7_oathsOf_36 rfl ?_
        refine sj_goto C 41 rfl dX7_oathsOf_37 ?_
        refine sj_iadd C 42 rfl dX7_oathsOf_41 ?_
        refine sj_istore_n_2 C 43 rfl dX7_oathsOf_42 rfl rfl ?_
        refine sj_iinc_3 C 46 rfl dX7_oathsOf_43 rfl rfl ?_
        refine sj_goto C 4 rfl dX7_oathsOf_46 ?_
        have e9 : sj_sum (fun k => sj_bi (decide (sj_oa (sj_ia S (b 1)) k 0 = nI i) || decide (sj_oa (sj_ia S (b 1)) k 1 = nI i))) (k + 1) = sj_sum (fun k => sj_bi (decide (sj_oa (sj_ia S (b 1)) k 0 = nI i) || decide (sj_oa (sj_ia S (b 1)) k 1 = nI i))) k + 1 := by
          show _ + sj_bi _ = _
          rw [decide_eq_true c_23]
          rfl
        have ih' := ih hlt
        rw [e9] at ih'
        rw [sj_n1]
        exact ih'
      · refine sj_aload_n C 27 rfl dX7_oathsOf_26 rfl rfl ?_
        refine sj_iload_n C 28 rfl dX7_oathsOf_27 rfl rfl ?_
        refine sj_iconstv C (1) 29 rfl dX7_oathsOf_28 rfl ?_
        refine sj_callVd C 32 rfl dX7_oathsOf_29 cv_X7_98 rfl (ct_X7_ofOath _ hm k 1 (by omega) (by omega)) rfl rfl rfl ⟨_, _, kd_h, rfl, rfl, by decide⟩ ⟨rfl, rfl⟩ ?_
        refine sj_iload_n C 33 rfl dX7_oathsOf_32 rfl rfl ?_
        refine sj_icmp_ne C 40 36 rfl rfl dX7_oathsOf_33 (fun c_33 => ?_) (fun c_33 => ?_)
        · refine sj_iconstv C (0) 41 rfl dX7_oathsOf_40 rfl ?_
          refine sj_iadd C 42 rfl dX7_oathsOf_41 ?_
          refine sj_istore_n_2 C 43 rfl dX7_oathsOf_42 rfl rfl ?_
          refine sj_iinc_3 C 46 rfl dX7_oathsOf_43 rfl rfl ?_
          refine sj_goto C 4 rfl dX7_oathsOf_46 ?_
          have e9 : sj_sum (fun k => sj_bi (decide (sj_oa (sj_ia S (b 1)) k 0 = nI i) || decide (sj_oa (sj_ia S (b 1)) k 1 = nI i))) (k + 1) = sj_sum (fun k => sj_bi (decide (sj_oa (sj_ia S (b 1)) k 0 = nI i) || decide (sj_oa (sj_ia S (b 1)) k 1 = nI i))) k + 0 := by
            show _ + sj_bi _ = _
            rw [decide_eq_false c_23, decide_eq_false c_33]
            rfl
          have ih' := ih hlt
          rw [e9] at ih'
          rw [sj_n1]
          exact ih'
        · refine sj_iconstv C (1) 37 rfl dX7_oathsOf_36 rfl ?_
          refine sj_goto C 41 rfl dX7_oathsOf_37 ?_
          refine sj_iadd C 42 rfl dX7_oathsOf_41 ?_
          refine sj_istore_n_2 C 43 rfl dX7_oathsOf_42 rfl rfl ?_
          refine sj_iinc_3 C 46 rfl dX7_oathsOf_43 rfl rfl ?_
          refine sj_goto C 4 rfl dX7_oathsOf_46 ?_
          have e9 : sj_sum (fun k => sj_bi (decide (sj_oa (sj_ia S (b 1)) k 0 = nI i) || decide (sj_oa (sj_ia S (b 1)) k 1 = nI i))) (k + 1) = sj_sum (fun k => sj_bi (decide (sj_oa (sj_ia S (b 1)) k 0 = nI i) || decide (sj_oa (sj_ia S (b 1)) k 1 = nI i))) k + 1 := by
            show _ + sj_bi _ = _
            rw [decide_eq_false c_23, decide_eq_true c_33]
            rfl
          have ih' := ih hlt
          rw [e9] at ih'
          rw [sj_n1]
          exact ih'
  refine sj_iconstv C (0) 1 rfl dX7_oathsOf_0 rfl ?_
  refine sj_istore_n_2 C 2 rfl dX7_oathsOf_1 rfl rfl ?_
  refine sj_iconstv C (0) 3 rfl dX7_oathsOf_2 rfl ?_
  refine sj_istore_n_3 C 4 rfl dX7_oathsOf_3 rfl rfl ?_
  exact cut_4
set_option maxRecDepth 100000 in
set_option maxHeartbeats 4000000 in
theorem ct_X7_likeOaths (l : Launch) {S : sj_St} {h : Nat} {b : Nat → Nat} {m : Nat → Int32} (hm : sj_mm S h b m) (hv : sj_oav m) : sj_Ctr l mX7_likeOaths [.ref h] S (sj_eq (some (.int (sj_lko m))) S) := by
  refine sj_start ([some (.ref h), none, none]) (by decide +kernel) rfl rfl (fun X hX C hR => ?_)
  subst hX
  have hm0 := hm
  obtain ⟨hm', em⟩ := hm0
  subst em
  obtain ⟨kd_h, ⟨rf_h_1, kd_a1, il_a1⟩, ⟨rf_h_2, kd_a2, il_a2⟩, ⟨rf_h_3, kd_a3, il_a3⟩, ⟨rf_h_5, kd_a5, il_a5⟩, ⟨rf_h_7, kd_a7, il_a7⟩, ⟨rf_h_13, kd_a13, il_a13⟩, ⟨rf_h_15, kd_a15, il_a15⟩, hinj⟩ := hm'
  obtain ⟨⟨h9, hn8⟩, ⟨h10, hn28⟩, hoa⟩ := id hv
  have cut_4 : sj_G X S 0 0 [some (.ref h), some (.int (sj_sum (fun k => sj_oa (sj_ia S (b 1)) k 2) 0)), some (.int (nI 0))] 4 [] := by
    refine sj_down (fun k => sj_G X S 0 0 [some (.ref h), some (.int (sj_sum (fun k => sj_oa (sj_ia S (b 1)) k 2) k)), some (.int (nI k))] 4 []) (sj_tn ((sj_ia S (b 1)) 10)) (fun k hk ih => ?_)
    refine sj_iload_n C 5 rfl dX7_likeOaths_4 rfl rfl ?_
    refine sj_aload_n C 6 rfl dX7_likeOaths_5 rfl rfl ?_
    refine sj_getr C 9 rfl fd_X7_7 dX7_likeOaths_6 kd_h rf_h_1 ?_
    refine sj_bipush C (10) 11 rfl dX7_likeOaths_9 (by decide) ?_
    refine sj_iald C 12 rfl dX7_likeOaths_11 kd_a1 (by show vp_in (nI 10) (sj_il S (b 1)); rw [il_a1]; exact vp_in_nI (by omega) (by omega)) ?_
    rw [show Int32.toNatClampNeg (10) = 10 from rfl, h10]
    refine sj_icmp_ge C 30 15 rfl rfl dX7_likeOaths_12 (fun c_12 => ?_) (fun c_12 => ?_)
    · refine sj_iload_n C 31 rfl dX7_likeOaths_30 rfl rfl ?_
      refine sj_iret C hR rfl rfl dX7_likeOaths_31 ?_
      have hkn : k = sj_tn ((sj_ia S (b 1)) 10) := by
        have h8 : ¬ k < sj_tn ((sj_ia S (b 1)) 10) := fun h7 => nI_ge h7 (by omega) c_12
        omega
      subst hkn
      exact ⟨rfl, rfl⟩
    · have hlt : k < sj_tn ((sj_ia S (b 1)) 10) := Nat.not_le.mp fun h8 => c_12 (nI_le h8 (by omega))
      refine sj_iload_n C 16 rfl dX7_likeOaths_15 rfl rfl ?_
      refine sj_aload_n C 17 rfl dX7_likeOaths_16 rfl rfl ?_
      refine sj_iload_n C 18 rfl dX7_likeOaths_17 rfl rfl ?_
      refine sj_iconstv C (2) 19 rfl dX7_likeOaths_18 rfl ?_
      refine sj_callVd C 22 rfl dX7_likeOaths_19 cv_X7_98 rfl (ct_X7_ofOath _ hm k 2 (by omega) (by omega)) rfl rfl rfl ⟨_, _, kd_h, rfl, rfl, by decide⟩ ⟨rfl, rfl⟩ ?_
      refine sj_iadd C 23 rfl dX7_likeOaths_22 ?_
      refine sj_istore_n_1 C 24 rfl dX7_likeOaths_23 rfl rfl ?_
      refine sj_iinc_2 C 27 rfl dX7_likeOaths_24 rfl rfl ?_
      refine sj_goto C 4 rfl dX7_likeOaths_27 ?_
      rw [sj_n1]
      exact ih hlt
  refine sj_iconstv C (0) 1 rfl dX7_likeOaths_0 rfl ?_
  refine sj_istore_n_1 C 2 rfl dX7_likeOaths_1 rfl rfl ?_
  refine sj_iconstv C (0) 3 rfl dX7_likeOaths_2 rfl ?_
  refine sj_istore_n_2 C 4 rfl dX7_likeOaths_3 rfl rfl ?_
  exact cut_4
set_option maxRecDepth 100000 in
set_option maxHeartbeats 4000000 in
theorem ct_X7_trembling (l : Launch) {S : sj_St} {h : Nat} {b : Nat → Nat} {m : Nat → Int32} (hm : sj_mm S h b m) (hv : sj_oav m) (hs : sj_shs m) : sj_Ctr l mX7_trembling [.ref h] S (sj_eq (some (.int (sj_trs m))) S) := by
  refine sj_start ([some (.ref h), none, none]) (by decide +kernel) rfl rfl (fun X hX C hR => ?_)
  subst hX
  have hm0 := hm
  obtain ⟨hm', em⟩ := hm0
  subst em
  obtain ⟨kd_h, ⟨rf_h_1, kd_a1, il_a1⟩, ⟨rf_h_2, kd_a2, il_a2⟩, ⟨rf_h_3, kd_a3, il_a3⟩, ⟨rf_h_5, kd_a5, il_a5⟩, ⟨rf_h_7, kd_a7, il_a7⟩, ⟨rf_h_13, kd_a13, il_a13⟩, ⟨rf_h_15, kd_a15, il_a15⟩, hinj⟩ := hm'
  obtain ⟨⟨h9, hn8⟩, ⟨h10, hn28⟩, hoa⟩ := id hv
  have cut_4 : sj_G X S 0 0 [some (.ref h), some (.int (sj_sum (fun k => sj_bi (sj_trm (sj_ia S (b 1)) k)) 0)), some (.int (nI 0))] 4 [] := by
    refine sj_down (fun k => sj_G X S 0 0 [some (.ref h), some (.int (sj_sum (fun k => sj_bi (sj_trm (sj_ia S (b 1)) k)) k)), some (.int (nI k))] 4 []) (sj_tn ((sj_ia S (b 1)) 9)) (fun k hk ih => ?_)
    refine sj_iload_n C 5 rfl dX7_trembling_4 rfl rfl ?_
    refine sj_aload_n C 6 rfl dX7_trembling_5 rfl rfl ?_
    refine sj_getr C 9 rfl fd_X7_7 dX7_trembling_6 kd_h rf_h_1 ?_
    refine sj_bipush C (9) 11 rfl dX7_trembling_9 (by decide) ?_
    refine sj_iald C 12 rfl dX7_trembling_11 kd_a1 (by show vp_in (nI 9) (sj_il S (b 1)); rw [il_a1]; exact vp_in_nI (by omega) (by omega)) ?_
    rw [show Int32.toNatClampNeg (9) = 9 from rfl, h9]
    refine sj_icmp_ge C 37 15 rfl rfl dX7_trembling_12 (fun c_12 => ?_) (fun c_12 => ?_)
    · refine sj_iload_n C 38 rfl dX7_trembling_37 rfl rfl ?_
      refine sj_iret C hR rfl rfl dX7_trembling_38 ?_
      have hkn : k = sj_tn ((sj_ia S (b 1)) 9) := by
        have h8 : ¬ k < sj_tn ((sj_ia S (b 1)) 9) := fun h7 => nI_ge h7 (by omega) c_12
        omega
      subst hkn
      exact ⟨rfl, rfl⟩
    · have hlt : k < sj_tn ((sj_ia S (b 1)) 9) := Nat.not_le.mp fun h8 => c_12 (nI_le h8 (by omega))
      refine sj_iload_n C 16 rfl dX7_trembling_15 rfl rfl ?_
      refine sj_aload_n C 17 rfl dX7_trembling_16 rfl rfl ?_
      refine sj_iload_n C 18 rfl dX7_trembling_17 rfl rfl ?_
      refine sj_callVd C 21 rfl dX7_trembling_18 cv_X7_116 rfl (ct_X7_trembles _ hm k (hs k hlt)) rfl rfl rfl ⟨_, _, kd_h, rfl, rfl, by decide⟩ ⟨rfl, rfl⟩ ?_
      refine sj_if_eq C 28 24 rfl rfl dX7_trembling_21 (fun c_21 => ?_) (fun c_21 => ?_)
      · refine sj_iconstv C (0) 29 rfl dX7_trembling_28 rfl ?_
        refine sj_iadd C 30 rfl dX7_trembling_29 ?_
        refine sj_istore_n_1 C 31 rfl dX7_trembling_30 rfl rfl ?_
        refine sj_iinc_2 C 34 rfl dX7_trembling_31 rfl rfl ?_
        refine sj_goto C 4 rfl dX7_trembling_34 ?_
        have e9 : sj_sum (fun k => sj_bi (sj_trm (sj_ia S (b 1)) k)) (k + 1) = sj_sum (fun k => sj_bi (sj_trm (sj_ia S (b 1)) k)) k + 0 := by
          show _ + sj_bi _ = _
          rw [sj_bi0.mp c_21]
          rfl
        have ih' := ih hlt
        rw [e9] at ih'
        rw [sj_n1]
        exact ih'
      · refine sj_iconstv C (1) 25 rfl dX7_trembling_24 rfl ?_
        refine sj_goto C 29 rfl dX7_trembling_25 ?_
        refine sj_iadd C 30 rfl dX7_trembling_29 ?_
        refine sj_istore_n_1 C 31 rfl dX7_trembling_30 rfl rfl ?_
        refine sj_iinc_2 C 34 rfl dX7_trembling_31 rfl rfl ?_
        refine sj_goto C 4 rfl dX7_trembling_34 ?_
        have e9 : sj_sum (fun k => sj_bi (sj_trm (sj_ia S (b 1)) k)) (k + 1) = sj_sum (fun k => sj_bi (sj_trm (sj_ia S (b 1)) k)) k + 1 := by
          show _ + sj_bi _ = _
          rw [sj_bin.mp c_21]
          rfl
        have ih' := ih hlt
        rw [e9] at ih'
        rw [sj_n1]
        exact ih'
  refine sj_iconstv C (0) 1 rfl dX7_trembling_0 rfl ?_
  refine sj_istore_n_1 C 2 rfl dX7_trembling_1 rfl rfl ?_
  refine sj_iconstv C (0) 3 rfl dX7_trembling_2 rfl ?_
  refine sj_istore_n_2 C 4 rfl dX7_trembling_3 rfl rfl ?_
  exact cut_4
set_option maxRecDepth 100000 in
set_option maxHeartbeats 4000000 in
theorem ct_X7_mostOfHand (l : Launch) {S : sj_St} {h : Nat} {b : Nat → Nat} {m : Nat → Int32} (hm : sj_mm S h b m) (hv : sj_oav m) : sj_Ctr l mX7_mostOfHand [.ref h] S (sj_scr (some (.int (sj_moh m))) S b) := by
  refine sj_start ([some (.ref h), none, none, none, none]) (by decide +kernel) rfl rfl (fun X hX C hR => ?_)
  subst hX
  have hm0 := hm
  obtain ⟨hm', em⟩ := hm0
  subst em
  obtain ⟨kd_h, ⟨rf_h_1, kd_a1, il_a1⟩, ⟨rf_h_2, kd_a2, il_a2⟩, ⟨rf_h_3, kd_a3, il_a3⟩, ⟨rf_h_5, kd_a5, il_a5⟩, ⟨rf_h_7, kd_a7, il_a7⟩, ⟨rf_h_13, kd_a13, il_a13⟩, ⟨rf_h_15, kd_a15, il_a15⟩, hinj⟩ := hm'
  obtain ⟨⟨h9, hn8⟩, ⟨h10, hn28⟩, hoa⟩ := id hv
  have hmA := sj_mm_15 hm (sj_cp 8 (sj_hH (sj_ia S (b 1)) (-1)) (sj_ia S (b 15)))
  have er : ∀ k9, k9 < 8 → sj_ia (sj_sIa S (b 15) (sj_cp 8 (sj_hH (sj_ia S (b 1)) (-1)) (sj_ia S (b 15)))) (b 15) (nI k9).toNatClampNeg = sj_hH (sj_ia S (b 1)) (-1) k9 := fun k9 hk => by
    rw [sj_ia_sIa, nI_clamp (by omega)]
    exact if_pos hk
  have e1 : sj_ia (sj_sIa S (b 15) (sj_cp 8 (sj_hH (sj_ia S (b 1)) (-1)) (sj_ia S (b 15)))) (b 1) = (sj_ia S (b 1)) := sj_ia_sIa_ne S _ (sj_mo_ne hm.1 (by omega) (by omega) (by omega))
  have cut_25 : ∀ k, k < sj_tn ((sj_ia S (b 1)) 9) → (∀ o1 o2, sj_G X (sj_sIa S (b 15) (sj_cp 8 (sj_hH (sj_ia S (b 1)) (-1)) (sj_ia S (b 15)))) 0 0 [some (.ref h), some (.int (sj_big (sj_mem (sj_ia S (b 1))) (k + 1))), some (.int (nI (k + 1))), o1, o2] 9 []) → sj_G X (sj_sIa S (b 15) (sj_cp 8 (sj_hH (sj_ia S (b 1)) (-1)) (sj_ia S (b 15)))) 0 0 [some (.ref h), some (.int (sj_big (sj_mem (sj_ia S (b 1))) k)), some (.int (nI k)), some (.int (sj_sum (fun e => sj_bi (decide (sj_hH (sj_ia S (b 1)) (-1) e = nI k))) 0)), some (.int (nI 0))] 25 [] := by
    intro k hlt hnext
    refine sj_down (fun e => sj_G X (sj_sIa S (b 15) (sj_cp 8 (sj_hH (sj_ia S (b 1)) (-1)) (sj_ia S (b 15)))) 0 0 [some (.ref h), some (.int (sj_big (sj_mem (sj_ia S (b 1))) k)), some (.int (nI k)), some (.int (sj_sum (fun e => sj_bi (decide (sj_hH (sj_ia S (b 1)) (-1) e = nI k))) e)), some (.int (nI e))] 25 []) (sj_tn ((sj_ia S (b 1)) 9)) (fun e hke ihe => ?_)
    refine sj_iload C 27 rfl dX7_mostOfHand_25 rfl ?_
    refine sj_aload_n C 28 rfl dX7_mostOfHand_27 rfl rfl ?_
    refine sj_getr C 31 rfl fd_X7_7 dX7_mostOfHand_28 kd_h rf_h_1 ?_
    refine sj_bipush C (9) 33 rfl dX7_mostOfHand_31 (by decide) ?_
    refine sj_iald C 34 rfl dX7_mostOfHand_33 kd_a1 (by show vp_in (nI 9) (sj_il S (b 1)); rw [il_a1]; exact vp_in_nI (by omega) (by omega)) ?_
    rw [show Int32.toNatClampNeg (9) = 9 from rfl, e1, h9]
    refine sj_icmp_ge C 62 37 rfl rfl dX7_mostOfHand_34 (fun c_34 => ?_) (fun c_34 => ?_)
    · have hee : e = sj_tn ((sj_ia S (b 1)) 9) := by
        have h8 : ¬ e < sj_tn ((sj_ia S (b 1)) 9) := fun h7 => nI_ge h7 (by omega) c_34
        omega
      subst hee
      refine sj_iload_n C 63 rfl dX7_mostOfHand_62 rfl rfl ?_
      refine sj_iload_n C 64 rfl dX7_mostOfHand_63 rfl rfl ?_
      refine sj_icmp_le C 71 67 rfl rfl dX7_mostOfHand_64 (fun c_64 => ?_) (fun c_64 => ?_)
      · refine sj_iload_n C 72 rfl dX7_mostOfHand_71 rfl rfl ?_
        refine sj_istore_n_1 C 73 rfl dX7_mostOfHand_72 rfl rfl ?_
        refine sj_iinc_2 C 76 rfl dX7_mostOfHand_73 rfl rfl ?_
        refine sj_goto C 9 rfl dX7_mostOfHand_76 ?_
        have eb : sj_big (sj_mem (sj_ia S (b 1))) (k + 1) = sj_big (sj_mem (sj_ia S (b 1))) k := if_neg (sj_nlt.mpr c_64)
        have ih' := hnext (some (.int (sj_mem (sj_ia S (b 1)) k))) (some (.int (nI (sj_tn ((sj_ia S (b 1)) 9)))))
        rw [eb] at ih'
        rw [sj_n1]
        exact ih'
      · refine sj_iload_n C 68 rfl dX7_mostOfHand_67 rfl rfl ?_
        refine sj_goto C 72 rfl dX7_mostOfHand_68 ?_
        refine sj_istore_n_1 C 73 rfl dX7_mostOfHand_72 rfl rfl ?_
        refine sj_iinc_2 C 76 rfl dX7_mostOfHand_73 rfl rfl ?_
        refine sj_goto C 9 rfl dX7_mostOfHand_76 ?_
        have eb : sj_big (sj_mem (sj_ia S (b 1))) (k + 1) = sj_mem (sj_ia S (b 1)) k := if_pos (sj_nle.mp c_64)
        have ih' := hnext (some (.int (sj_mem (sj_ia S (b 1)) k))) (some (.int (nI (sj_tn ((sj_ia S (b 1)) 9)))))
        rw [eb] at ih'
        rw [sj_n1]
        exact ih'
    · have hle : e < sj_tn ((sj_ia S (b 1)) 9) := Nat.not_le.mp fun h8 => c_34 (nI_le h8 (by omega))
      refine sj_iload_n C 38 rfl dX7_mostOfHand_37 rfl rfl ?_
      refine sj_aload_n C 39 rfl dX7_mostOfHand_38 rfl rfl ?_
      refine sj_getr C 42 rfl fd_X7_28 dX7_mostOfHand_39 kd_h rf_h_15 ?_
      refine sj_iload C 44 rfl dX7_mostOfHand_42 rfl ?_
      refine sj_iald C 45 rfl dX7_mostOfHand_44 kd_a15 (by show vp_in (nI e) (sj_il S (b 15)); rw [il_a15]; exact vp_in_nI (by omega : e < 8) (by omega)) ?_
      rw [er e (by omega)]
      refine sj_iload_n C 46 rfl dX7_mostOfHand_45 rfl rfl ?_
      refine sj_icmp_ne C 53 49 rfl rfl dX7_mostOfHand_46 (fun c_46 => ?_) (fun c_46 => ?_)
      · refine sj_iconstv C (0) 54 rfl dX7_mostOfHand_53 rfl ?_
        refine sj_iadd C 55 rfl dX7_mostOfHand_54 ?_
        refine sj_istore_n_3 C 56 rfl dX7_mostOfHand_55 rfl rfl ?_
        refine sj_iinc_4 C 59 rfl dX7_mostOfHand_56 rfl rfl ?_
        refine sj_goto C 25 rfl dX7_mostOfHand_59 ?_
        have e9 : sj_sum (fun e => sj_bi (decide (sj_hH (sj_ia S (b 1)) (-1) e = nI k))) (e + 1) = sj_sum (fun e => sj_bi (decide (sj_hH (sj_ia S (b 1)) (-1) e = nI k))) e + 0 := by
          show _ + sj_bi _ = _
          rw [decide_eq_false c_46]
          rfl
        have ih' := ihe hle
        rw [e9] at ih'
        rw [sj_n1]
        exact ih'
      · refine sj_iconstv C (1) 50 rfl dX7_mostOfHand_49 rfl ?_
        refine sj_goto C 54 rfl dX7_mostOfHand_50 ?_
        refine sj_iadd C 55 rfl dX7_mostOfHand_54 ?_
        refine sj_istore_n_3 C 56 rfl dX7_mostOfHand_55 rfl rfl ?_
        refine sj_iinc_4 C 59 rfl dX7_mostOfHand_56 rfl rfl ?_
        refine sj_goto C 25 rfl dX7_mostOfHand_59 ?_
        have e9 : sj_sum (fun e => sj_bi (decide (sj_hH (sj_ia S (b 1)) (-1) e = nI k))) (e + 1) = sj_sum (fun e => sj_bi (decide (sj_hH (sj_ia S (b 1)) (-1) e = nI k))) e + 1 := by
          show _ + sj_bi _ = _
          rw [decide_eq_true c_46]
          rfl
        have ih' := ihe hle
        rw [e9] at ih'
        rw [sj_n1]
        exact ih'
  have cut_9 : ∀ o1 o2, sj_G X (sj_sIa S (b 15) (sj_cp 8 (sj_hH (sj_ia S (b 1)) (-1)) (sj_ia S (b 15)))) 0 0 [some (.ref h), some (.int (sj_big (sj_mem (sj_ia S (b 1))) 0)), some (.int (nI 0)), o1, o2] 9 [] := by
    refine sj_down (fun k => ∀ o1 o2, sj_G X (sj_sIa S (b 15) (sj_cp 8 (sj_hH (sj_ia S (b 1)) (-1)) (sj_ia S (b 15)))) 0 0 [some (.ref h), some (.int (sj_big (sj_mem (sj_ia S (b 1))) k)), some (.int (nI k)), o1, o2] 9 []) (sj_tn ((sj_ia S (b 1)) 9)) (fun k hk ih => ?_)
    intro o1 o2
    refine sj_iload_n C 10 rfl dX7_mostOfHand_9 rfl rfl ?_
    refine sj_aload_n C 11 rfl dX7_mostOfHand_10 rfl rfl ?_
    refine sj_getr C 14 rfl fd_X7_7 dX7_mostOfHand_11 kd_h rf_h_1 ?_
    refine sj_bipush C (9) 16 rfl dX7_mostOfHand_14 (by decide) ?_
    refine sj_iald C 17 rfl dX7_mostOfHand_16 kd_a1 (by show vp_in (nI 9) (sj_il S (b 1)); rw [il_a1]; exact vp_in_nI (by omega) (by omega)) ?_
    rw [show Int32.toNatClampNeg (9) = 9 from rfl, e1, h9]
    refine sj_icmp_ge C 79 20 rfl rfl dX7_mostOfHand_17 (fun c_17 => ?_) (fun c_17 => ?_)
    · refine sj_iload_n C 80 rfl dX7_mostOfHand_79 rfl rfl ?_
      refine sj_iret C hR rfl rfl dX7_mostOfHand_80 ?_
      have hkn : k = sj_tn ((sj_ia S (b 1)) 9) := by
        have h8 : ¬ k < sj_tn ((sj_ia S (b 1)) 9) := fun h7 => nI_ge h7 (by omega) c_17
        omega
      subst hkn
      refine ⟨congrArg (fun z => some (Value.int z)) ?_, _, rfl⟩
      rfl
    · have hlt : k < sj_tn ((sj_ia S (b 1)) 9) := Nat.not_le.mp fun h8 => c_17 (nI_le h8 (by omega))
      refine sj_iconstv C (0) 21 rfl dX7_mostOfHand_20 rfl ?_
      refine sj_istore_n_3 C 22 rfl dX7_mostOfHand_21 rfl rfl ?_
      refine sj_iconstv C (0) 23 rfl dX7_mostOfHand_22 rfl ?_
      refine sj_istore_4 C 25 rfl dX7_mostOfHand_23 rfl rfl ?_
      exact cut_25 k hlt (fun o1 o2 => ih hlt o1 o2)
  refine sj_aload_n C 1 rfl dX7_mostOfHand_0 rfl rfl ?_
  refine sj_iconstv C (-1) 2 rfl dX7_mostOfHand_1 rfl ?_
  refine sj_callVv C 5 rfl dX7_mostOfHand_2 cv_X7_105 rfl (ct_X7_layHands _ hm (-1) hv) rfl rfl rfl ⟨_, _, kd_h, rfl, rfl, by decide⟩ ⟨rfl, rfl⟩ ?_
  refine sj_iconstv C (0) 6 rfl dX7_mostOfHand_5 rfl ?_
  refine sj_istore_n_1 C 7 rfl dX7_mostOfHand_6 rfl rfl ?_
  refine sj_iconstv C (0) 8 rfl dX7_mostOfHand_7 rfl ?_
  refine sj_istore_n_2 C 9 rfl dX7_mostOfHand_8 rfl rfl ?_
  exact cut_9 none none
set_option maxRecDepth 100000 in
set_option maxHeartbeats 4000000 in
theorem ct_X7_likePairs (l : Launch) {S : sj_St} {h : Nat} {b : Nat → Nat} {m : Nat → Int32} (hm : sj_mm S h b m) (hv : sj_oav m) (hs : sj_shs m) : sj_Ctr l mX7_likePairs [.ref h] S (sj_eq (some (.int (sj_lps m (sj_tn (m 9))))) S) := by
  refine sj_start ([some (.ref h), none, none, none]) (by decide +kernel) rfl rfl (fun X hX C hR => ?_)
  subst hX
  have hm0 := hm
  obtain ⟨hm', em⟩ := hm0
  subst em
  obtain ⟨kd_h, ⟨rf_h_1, kd_a1, il_a1⟩, ⟨rf_h_2, kd_a2, il_a2⟩, ⟨rf_h_3, kd_a3, il_a3⟩, ⟨rf_h_5, kd_a5, il_a5⟩, ⟨rf_h_7, kd_a7, il_a7⟩, ⟨rf_h_13, kd_a13, il_a13⟩, ⟨rf_h_15, kd_a15, il_a15⟩, hinj⟩ := hm'
  obtain ⟨⟨h9, hn8⟩, ⟨h10, hn28⟩, hoa⟩ := id hv
  have cut_17 : ∀ k, k < sj_tn ((sj_ia S (b 1)) 9) → (∀ o1, sj_G X S 0 0 [some (.ref h), some (.int (sj_lps (sj_ia S (b 1)) (k + 1))), some (.int (nI (k + 1))), o1] 4 []) → sj_G X S 0 0 [some (.ref h), some (.int (sj_lps (sj_ia S (b 1)) k + sj_sum (fun e => sj_bi (decide ((sj_ia S (b 1)) 8 ≤ sj_lik (sj_ia S (b 1)) k e))) 0)), some (.int (nI k)), some (.int (nI 0))] 17 [] := by
    intro k hlt hnext
    refine sj_down (fun e => sj_G X S 0 0 [some (.ref h), some (.int (sj_lps (sj_ia S (b 1)) k + sj_sum (fun e => sj_bi (decide ((sj_ia S (b 1)) 8 ≤ sj_lik (sj_ia S (b 1)) k e))) e)), some (.int (nI k)), some (.int (nI e))] 17 []) k (fun e hke ihe => ?_)
    refine sj_iload_n C 18 rfl dX7_likePairs_17 rfl rfl ?_
    refine sj_iload_n C 19 rfl dX7_likePairs_18 rfl rfl ?_
    refine sj_icmp_ge C 52 22 rfl rfl dX7_likePairs_19 (fun c_19 => ?_) (fun c_19 => ?_)
    · refine sj_iinc_2 C 55 rfl dX7_likePairs_52 rfl rfl ?_
      refine sj_goto C 4 rfl dX7_likePairs_55 ?_
      have hee : e = k := by
        have h8 : ¬ e < k := fun h7 => nI_ge h7 (by omega) c_19
        omega
      subst hee
      rw [sj_n1]
      exact hnext _
    · have hle : e < k := Nat.not_le.mp fun h8 => c_19 (nI_le h8 (by omega))
      refine sj_iload_n C 23 rfl dX7_likePairs_22 rfl rfl ?_
      refine sj_aload_n C 24 rfl dX7_likePairs_23 rfl rfl ?_
      refine sj_iload_n C 25 rfl dX7_likePairs_24 rfl rfl ?_
      refine sj_iload_n C 26 rfl dX7_likePairs_25 rfl rfl ?_
      refine sj_callVd C 29 rfl dX7_likePairs_26 cv_X7_119 rfl (ct_X7_likeness _ hm k e (hs k hlt) (hs e (by omega))) rfl rfl rfl ⟨_, _, kd_h, rfl, rfl, by decide⟩ ⟨rfl, rfl⟩ ?_
      refine sj_aload_n C 30 rfl dX7_likePairs_29 rfl rfl ?_
      refine sj_getr C 33 rfl fd_X7_7 dX7_likePairs_30 kd_h rf_h_1 ?_
      refine sj_bipush C (8) 35 rfl dX7_likePairs_33 (by decide) ?_
      refine sj_iald C 36 rfl dX7_likePairs_35 kd_a1 (by show vp_in (nI 8) (sj_il S (b 1)); rw [il_a1]; exact vp_in_nI (by omega) (by omega)) ?_
      rw [show Int32.toNatClampNeg (8) = 8 from rfl]
      refine sj_icmp_lt C 43 39 rfl rfl dX7_likePairs_36 (fun c_36 => ?_) (fun c_36 => ?_)
      · refine sj_iconstv C (0) 44 rfl dX7_likePairs_43 rfl ?_
        refine sj_iadd C 45 rfl dX7_likePairs_44 ?_
        refine sj_istore_n_1 C 46 rfl dX7_likePairs_45 rfl rfl ?_
        refine sj_iinc_3 C 49 rfl dX7_likePairs_46 rfl rfl ?_
        refine sj_goto C 17 rfl dX7_likePairs_49 ?_
        have e9 : sj_lps (sj_ia S (b 1)) k + sj_sum (fun e => sj_bi (decide ((sj_ia S (b 1)) 8 ≤ sj_lik (sj_ia S (b 1)) k e))) (e + 1) = sj_lps (sj_ia S (b 1)) k + sj_sum (fun e => sj_bi (decide ((sj_ia S (b 1)) 8 ≤ sj_lik (sj_ia S (b 1)) k e))) e + 0 := by
          show sj_lps (sj_ia S (b 1)) k + (_ + sj_bi _) = _
          rw [decide_eq_false (sj_nle.mpr c_36), ← Int32.add_assoc]
          rfl
        have ih' := ihe hle
        rw [e9] at ih'
        rw [sj_n1]
        exact ih'
      · refine sj_iconstv C (1) 40 rfl dX7_likePairs_39 rfl ?_
        refine sj_goto C 44 rfl dX7_likePairs_40 ?_
        refine sj_iadd C 45 rfl dX7_likePairs_44 ?_
        refine sj_istore_n_1 C 46 rfl dX7_likePairs_45 rfl rfl ?_
        refine sj_iinc_3 C 49 rfl dX7_likePairs_46 rfl rfl ?_
        refine sj_goto C 17 rfl dX7_likePairs_49 ?_
        have e9 : sj_lps (sj_ia S (b 1)) k + sj_sum (fun e => sj_bi (decide ((sj_ia S (b 1)) 8 ≤ sj_lik (sj_ia S (b 1)) k e))) (e + 1) = sj_lps (sj_ia S (b 1)) k + sj_sum (fun e => sj_bi (decide ((sj_ia S (b 1)) 8 ≤ sj_lik (sj_ia S (b 1)) k e))) e + 1 := by
          show sj_lps (sj_ia S (b 1)) k + (_ + sj_bi _) = _
          rw [decide_eq_true (sj_nlt.mp c_36), ← Int32.add_assoc]
          rfl
        have ih' := ihe hle
        rw [e9] at ih'
        rw [sj_n1]
        exact ih'
  have cut_4 : ∀ o1, sj_G X S 0 0 [some (.ref h), some (.int (sj_lps (sj_ia S (b 1)) 0)), some (.int (nI 0)), o1] 4 [] := by
    refine sj_down (fun k => ∀ o1, sj_G X S 0 0 [some (.ref h), some (.int (sj_lps (sj_ia S (b 1)) k)), some (.int (nI k)), o1] 4 []) (sj_tn ((sj_ia S (b 1)) 9)) (fun k hk ih => ?_)
    intro o1
    refine sj_iload_n C 5 rfl dX7_likePairs_4 rfl rfl ?_
    refine sj_aload_n C 6 rfl dX7_likePairs_5 rfl rfl ?_
    refine sj_getr C 9 rfl fd_X7_7 dX7_likePairs_6 kd_h rf_h_1 ?_
    refine sj_bipush C (9) 11 rfl dX7_likePairs_9 (by decide) ?_
    refine sj_iald C 12 rfl dX7_likePairs_11 kd_a1 (by show vp_in (nI 9) (sj_il S (b 1)); rw [il_a1]; exact vp_in_nI (by omega) (by omega)) ?_
    rw [show Int32.toNatClampNeg (9) = 9 from rfl, h9]
    refine sj_icmp_ge C 58 15 rfl rfl dX7_likePairs_12 (fun c_12 => ?_) (fun c_12 => ?_)
    · refine sj_iload_n C 59 rfl dX7_likePairs_58 rfl rfl ?_
      refine sj_iret C hR rfl rfl dX7_likePairs_59 ?_
      have hkn : k = sj_tn ((sj_ia S (b 1)) 9) := by
        have h8 : ¬ k < sj_tn ((sj_ia S (b 1)) 9) := fun h7 => nI_ge h7 (by omega) c_12
        omega
      subst hkn
      exact ⟨rfl, rfl⟩
    · have hlt : k < sj_tn ((sj_ia S (b 1)) 9) := Nat.not_le.mp fun h8 => c_12 (nI_le h8 (by omega))
      refine sj_iconstv C (0) 16 rfl dX7_likePairs_15 rfl ?_
      refine sj_istore_n_3 C 17 rfl dX7_likePairs_16 rfl rfl ?_
      have h17 := cut_17 k hlt (fun o1 => ih hlt o1)
      rw [show sj_lps (sj_ia S (b 1)) k + sj_sum (fun e => sj_bi (decide ((sj_ia S (b 1)) 8 ≤ sj_lik (sj_ia S (b 1)) k e))) 0 = sj_lps (sj_ia S (b 1)) k from Int32.add_zero _] at h17
      exact h17
  refine sj_iconstv C (0) 1 rfl dX7_likePairs_0 rfl ?_
  refine sj_istore_n_1 C 2 rfl dX7_likePairs_1 rfl rfl ?_
  refine sj_iconstv C (0) 3 rfl dX7_likePairs_2 rfl ?_
  refine sj_istore_n_2 C 4 rfl dX7_likePairs_3 rfl rfl ?_
  exact cut_4 none
/-- the most alike among the first k sheets -/
def sj_mal (m : Nat → Int32) (i : Nat) : Nat → Option Nat
  | 0 => none
  | k + 1 => if k = i then sj_mal m i k else match sj_mal m i k with
    | none => some k
    | some j => if sj_lik m i j < sj_lik m i k then some k else some j
def sj_on (o : Option Nat) : Int32 := match o with
  | none => -1
  | some j => nI j
theorem sj_mal_lt (m : Nat → Int32) (i : Nat) : ∀ k j, sj_mal m i k = some j → j < k
  | 0, j, h => by cases h
  | k + 1, j, h => by
    have ih := sj_mal_lt m i k
    by_cases hk : k = i
    · have e : sj_mal m i (k + 1) = sj_mal m i k := if_pos hk
      rw [e] at h
      have := ih j h
      omega
    · have e : sj_mal m i (k + 1) = (match sj_mal m i k with
        | none => some k
        | some j => if sj_lik m i j < sj_lik m i k then some k else some j) := if_neg hk
      rw [e] at h
      cases h9 : sj_mal m i k with
      | none =>
        rw [h9] at h
        cases h
        omega
      | some q =>
        rw [h9] at h
        have h1 := ih q h9
        dsimp only at h
        by_cases h2 : sj_lik m i q < sj_lik m i k
        · rw [if_pos h2] at h
          cases h
          omega
        · rw [if_neg h2] at h
          cases h
          omega
set_option maxRecDepth 100000 in
set_option maxHeartbeats 4000000 in
theorem ct_X7_mostAlike (l : Launch) {S : sj_St} {h : Nat} {b : Nat → Nat} {m : Nat → Int32} (hm : sj_mm S h b m) (hv : sj_oav m) (hs : sj_shs m) (i : Nat) (hi : i < sj_tn (m 9)) : sj_Ctr l mX7_mostAlike [.ref h, .int (nI i)] S (sj_eq (some (.int (sj_on (sj_mal m i (sj_tn (m 9)))))) S) := by
  refine sj_start ([some (.ref h), some (.int (nI i)), none, none, none]) (by decide +kernel) rfl rfl (fun X hX C hR => ?_)
  subst hX
  have hm0 := hm
  obtain ⟨hm', em⟩ := hm0
  subst em
  obtain ⟨kd_h, ⟨rf_h_1, kd_a1, il_a1⟩, ⟨rf_h_2, kd_a2, il_a2⟩, ⟨rf_h_3, kd_a3, il_a3⟩, ⟨rf_h_5, kd_a5, il_a5⟩, ⟨rf_h_7, kd_a7, il_a7⟩, ⟨rf_h_13, kd_a13, il_a13⟩, ⟨rf_h_15, kd_a15, il_a15⟩, hinj⟩ := hm'
  obtain ⟨⟨h9, hn8⟩, ⟨h10, hn28⟩, hoa⟩ := id hv
  have cut_4 : ∀ o1, sj_G X S 0 0 [some (.ref h), some (.int (nI i)), some (.int (sj_on (sj_mal (sj_ia S (b 1)) i 0))), some (.int (nI 0)), o1] 4 [] := by
    refine sj_down (fun k => ∀ o1, sj_G X S 0 0 [some (.ref h), some (.int (nI i)), some (.int (sj_on (sj_mal (sj_ia S (b 1)) i k))), some (.int (nI k)), o1] 4 []) (sj_tn ((sj_ia S (b 1)) 9)) (fun k hk ih => ?_)
    intro o1
    refine sj_iload_n C 5 rfl dX7_mostAlike_4 rfl rfl ?_
    refine sj_aload_n C 6 rfl dX7_mostAlike_5 rfl rfl ?_
    refine sj_getr C 9 rfl fd_X7_7 dX7_mostAlike_6 kd_h rf_h_1 ?_
    refine sj_bipush C (9) 11 rfl dX7_mostAlike_9 (by decide) ?_
    refine sj_iald C 12 rfl dX7_mostAlike_11 kd_a1 (by show vp_in (nI 9) (sj_il S (b 1)); rw [il_a1]; exact vp_in_nI (by omega) (by omega)) ?_
    rw [show Int32.toNatClampNeg (9) = 9 from rfl, h9]
    refine sj_icmp_ge C 64 15 rfl rfl dX7_mostAlike_12 (fun c_12 => ?_) (fun c_12 => ?_)
    · refine sj_iload_n C 65 rfl dX7_mostAlike_64 rfl rfl ?_
      refine sj_iret C hR rfl rfl dX7_mostAlike_65 ?_
      have hkn : k = sj_tn ((sj_ia S (b 1)) 9) := by
        have h8 : ¬ k < sj_tn ((sj_ia S (b 1)) 9) := fun h7 => nI_ge h7 (by omega) c_12
        omega
      subst hkn
      exact ⟨rfl, rfl⟩
    · have hlt : k < sj_tn ((sj_ia S (b 1)) 9) := Nat.not_le.mp fun h8 => c_12 (nI_le h8 (by omega))
      refine sj_iload_n C 16 rfl dX7_mostAlike_15 rfl rfl ?_
      refine sj_iload_n C 17 rfl dX7_mostAlike_16 rfl rfl ?_
      refine sj_icmp_eq C 44 20 rfl rfl dX7_mostAlike_17 (fun c_17 => ?_) (fun c_17 => ?_)
      · refine sj_iconstv C (0) 45 rfl dX7_mostAlike_44 rfl ?_
        refine sj_istore_4 C 47 rfl dX7_mostAlike_45 rfl rfl ?_
        refine sj_iload C 49 rfl dX7_mostAlike_47 rfl ?_
        refine sj_if_eq C 56 52 rfl rfl dX7_mostAlike_49 (fun c_49 => ?_) (fun c_49 => ?_)
        · refine sj_iload_n C 57 rfl dX7_mostAlike_56 rfl rfl ?_
          refine sj_istore_n_2 C 58 rfl dX7_mostAlike_57 rfl rfl ?_
          skip
          refine sj_iinc_3 C 61 rfl dX7_mostAlike_58 rfl rfl ?_
          refine sj_goto C 4 rfl dX7_mostAlike_61 ?_
          have em : sj_mal (sj_ia S (b 1)) i (k + 1) = sj_mal (sj_ia S (b 1)) i k := if_pos ((nI_eq (by omega) (by omega)).mp c_17)
          have ih' := ih hlt
          rw [em] at ih'
          rw [sj_n1]
          exact ih' _
        · refine sj_iload_n C 53 rfl dX7_mostAlike_52 rfl rfl ?_
          refine sj_goto C 57 rfl dX7_mostAlike_53 ?_
          refine sj_istore_n_2 C 58 rfl dX7_mostAlike_57 rfl rfl ?_
          skip
          refine sj_iinc_3 C 61 rfl dX7_mostAlike_58 rfl rfl ?_
          refine sj_goto C 4 rfl dX7_mostAlike_61 ?_
          exact absurd rfl c_49
      · obtain ⟨om, hom⟩ : ∃ om, sj_mal (sj_ia S (b 1)) i k = om := ⟨_, rfl⟩
        refine sj_iload_n C 21 rfl dX7_mostAlike_20 rfl rfl ?_
        refine sj_iconstv C (-1) 22 rfl dX7_mostAlike_21 rfl ?_
        refine sj_icmp_eq C 40 25 rfl rfl dX7_mostAlike_22 (fun c_22 => ?_) (fun c_22 => ?_)
        · have hmal : sj_mal (sj_ia S (b 1)) i k = none := by
            cases hq : sj_mal (sj_ia S (b 1)) i k with
            | none => rfl
            | some j =>
              have hjk : j < k := sj_mal_lt _ _ _ _ hq
              rw [hq] at c_22
              exact absurd c_22 (fun e9 => nI_pos (n := j) (by omega) (by rw [show nI j = -1 from e9]; decide))
          refine sj_iconstv C (1) 41 rfl dX7_mostAlike_40 rfl ?_
          refine sj_goto C 45 rfl dX7_mostAlike_41 ?_
          refine sj_istore_4 C 47 rfl dX7_mostAlike_45 rfl rfl ?_
          refine sj_iload C 49 rfl dX7_mostAlike_47 rfl ?_
          refine sj_if_eq C 56 52 rfl rfl dX7_mostAlike_49 (fun c_49 => ?_) (fun c_49 => ?_)
          · refine sj_iload_n C 57 rfl dX7_mostAlike_56 rfl rfl ?_
            refine sj_istore_n_2 C 58 rfl dX7_mostAlike_57 rfl rfl ?_
            skip
            refine sj_iinc_3 C 61 rfl dX7_mostAlike_58 rfl rfl ?_
            refine sj_goto C 4 rfl dX7_mostAlike_61 ?_
            exact absurd c_49 (by decide)
          · refine sj_iload_n C 53 rfl dX7_mostAlike_52 rfl rfl ?_
            refine sj_goto C 57 rfl dX7_mostAlike_53 ?_
            refine sj_istore_n_2 C 58 rfl dX7_mostAlike_57 rfl rfl ?_
            skip
            refine sj_iinc_3 C 61 rfl dX7_mostAlike_58 rfl rfl ?_
            refine sj_goto C 4 rfl dX7_mostAlike_61 ?_
            have em : sj_mal (sj_ia S (b 1)) i (k + 1) = some k := (if_neg (fun e9 => c_17 (by rw [e9]))).trans (by rw [hmal])
            have ih' := ih hlt
            rw [em] at ih'
            rw [sj_n1]
            exact ih' _
        · obtain ⟨j, hmal⟩ : ∃ j, sj_mal (sj_ia S (b 1)) i k = some j := by
            cases hq : sj_mal (sj_ia S (b 1)) i k with
            | none => exact absurd (by rw [hq]; rfl) c_22
            | some j => exact ⟨j, rfl⟩
          have hjk : j < k := sj_mal_lt _ _ _ _ hmal
          rw [hmal]
          rw [show sj_on (some j) = nI j from rfl]
          refine sj_aload_n C 26 rfl dX7_mostAlike_25 rfl rfl ?_
          refine sj_iload_n C 27 rfl dX7_mostAlike_26 rfl rfl ?_
          refine sj_iload_n C 28 rfl dX7_mostAlike_27 rfl rfl ?_
          refine sj_callVd C 31 rfl dX7_mostAlike_28 cv_X7_119 rfl (ct_X7_likeness _ hm i k (hs i hi) (hs k hlt)) rfl rfl rfl ⟨_, _, kd_h, rfl, rfl, by decide⟩ ⟨rfl, rfl⟩ ?_
          refine sj_aload_n C 32 rfl dX7_mostAlike_31 rfl rfl ?_
          refine sj_iload_n C 33 rfl dX7_mostAlike_32 rfl rfl ?_
          refine sj_iload_n C 34 rfl dX7_mostAlike_33 rfl rfl ?_
          refine sj_callVd C 37 rfl dX7_mostAlike_34 cv_X7_119 rfl (ct_X7_likeness _ hm i j (hs i hi) (hs j (by omega))) rfl rfl rfl ⟨_, _, kd_h, rfl, rfl, by decide⟩ ⟨rfl, rfl⟩ ?_
          refine sj_icmp_le C 44 40 rfl rfl dX7_mostAlike_37 (fun c_37 => ?_) (fun c_37 => ?_)
          · refine sj_iconstv C (0) 45 rfl dX7_mostAlike_44 rfl ?_
            refine sj_istore_4 C 47 rfl dX7_mostAlike_45 rfl rfl ?_
            refine sj_iload C 49 rfl dX7_mostAlike_47 rfl ?_
            refine sj_if_eq C 56 52 rfl rfl dX7_mostAlike_49 (fun c_49 => ?_) (fun c_49 => ?_)
            · refine sj_iload_n C 57 rfl dX7_mostAlike_56 rfl rfl ?_
              refine sj_istore_n_2 C 58 rfl dX7_mostAlike_57 rfl rfl ?_
              skip
              refine sj_iinc_3 C 61 rfl dX7_mostAlike_58 rfl rfl ?_
              refine sj_goto C 4 rfl dX7_mostAlike_61 ?_
              have em : sj_mal (sj_ia S (b 1)) i (k + 1) = some j := (if_neg (fun e9 => c_17 (by rw [e9]))).trans (by rw [hmal]; exact if_neg (sj_nlt.mpr c_37))
              have ih' := ih hlt
              rw [em] at ih'
              rw [sj_n1]
              exact ih' _
            · refine sj_iload_n C 53 rfl dX7_mostAlike_52 rfl rfl ?_
              refine sj_goto C 57 rfl dX7_mostAlike_53 ?_
              refine sj_istore_n_2 C 58 rfl dX7_mostAlike_57 rfl rfl ?_
              skip
              refine sj_iinc_3 C 61 rfl dX7_mostAlike_58 rfl rfl ?_
              refine sj_goto C 4 rfl dX7_mostAlike_61 ?_
              exact absurd rfl c_49
          · skip
            refine sj_iconstv C (1) 41 rfl dX7_mostAlike_40 rfl ?_
            refine sj_goto C 45 rfl dX7_mostAlike_41 ?_
            refine sj_istore_4 C 47 rfl dX7_mostAlike_45 rfl rfl ?_
            refine sj_iload C 49 rfl dX7_mostAlike_47 rfl ?_
            refine sj_if_eq C 56 52 rfl rfl dX7_mostAlike_49 (fun c_49 => ?_) (fun c_49 => ?_)
            · refine sj_iload_n C 57 rfl dX7_mostAlike_56 rfl rfl ?_
              refine sj_istore_n_2 C 58 rfl dX7_mostAlike_57 rfl rfl ?_
              skip
              refine sj_iinc_3 C 61 rfl dX7_mostAlike_58 rfl rfl ?_
              refine sj_goto C 4 rfl dX7_mostAlike_61 ?_
              exact absurd c_49 (by decide)
            · refine sj_iload_n C 53 rfl dX7_mostAlike_52 rfl rfl ?_
              refine sj_goto C 57 rfl dX7_mostAlike_53 ?_
              refine sj_istore_n_2 C 58 rfl dX7_mostAlike_57 rfl rfl ?_
              skip
              refine sj_iinc_3 C 61 rfl dX7_mostAlike_58 rfl rfl ?_
              refine sj_goto C 4 rfl dX7_mostAlike_61 ?_
              have em : sj_mal (sj_ia S (b 1)) i (k + 1) = some k := (if_neg (fun e9 => c_17 (by rw [e9]))).trans (by rw [hmal]; exact if_pos (sj_nle.mp c_37))
              have ih' := ih hlt
              rw [em] at ih'
              rw [sj_n1]
              exact ih' _
  refine sj_iconstv C (-1) 1 rfl dX7_mostAlike_0 rfl ?_
  refine sj_istore_n_2 C 2 rfl dX7_mostAlike_1 rfl rfl ?_
  refine sj_iconstv C (0) 3 rfl dX7_mostAlike_2 rfl ?_
  refine sj_istore_n_3 C 4 rfl dX7_mostAlike_3 rfl rfl ?_
  exact cut_4 none
