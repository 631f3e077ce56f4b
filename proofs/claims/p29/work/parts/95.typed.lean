/-! THE LAW: a sheet is typed -/
theorem sp_numlen1 (T : List Nat) (v : Nat) (h : T.length + (sp_num v).length ≤ 60) : T.length < 60 := by
  have h1 : 1 ≤ (sp_num v).length := by
    by_cases h9 : 9 < v
    · rw [sp_num_y h9]
      exact Nat.le_succ 1
    · rw [sp_num_n h9]
      exact Nat.le_refl 1
  omega
theorem sp_numlen2 {T : List Nat} {v : Nat} (c : Nat) (h9 : 9 < v) (h : T.length + (sp_num v).length ≤ 60) : (T ++ [c]).length < 60 := by
  rw [sp_num_y h9] at h
  rw [List.length_append]
  exact h
set_option maxRecDepth 100000 in
set_option maxHeartbeats 200000 in
theorem ct_L_number (l : Launch) {S0 S : sj_St} {g : Nat → Nat} {m : Nat → Int32} {hs : Bool} {ms : Nat → Int32} {p q : Nat} {Q : Nat → Nat → Int32} {rt N : Nat} {T : List Nat} {TR : Nat → Int32} (hrt : ¬ sq_Cl g rt) (hI : sj_inv m) (hY : sp_Y S0 S g m hs ms p q Q rt N T TR) {v : Nat} (hv : v ≤ 99) (hT : T.length + (sp_num v).length ≤ 60) : sj_Ctr l nL_number [.ref (g 141), .int (nI (v))] S (fun r V => r = none ∧ sp_Y S0 V g m hs ms p q Q rt N (T ++ sp_num v) TR) := by
  refine sj_start ([some (.ref (g 141)), some (.int (nI (v)))]) (by decide +kernel) rfl rfl (fun X hX C hR => ?_)
  subst hX
  refine sj_iload_n C 1 rfl dL_number_0 rfl rfl ?_
  refine sj_bipush C (9) 3 rfl dL_number_1 (by decide) ?_
  refine sj_icmp_le C 18 6 rfl rfl dL_number_3 (fun c_3 => ?_) (fun c_3 => ?_)
  · refine sj_aload_n C 19 rfl dL_number_18 rfl rfl ?_
    refine sj_bipush C (48) 21 rfl dL_number_19 (by decide) ?_
    refine sj_iload_n C 22 rfl dL_number_21 rfl rfl ?_
    refine sj_bipush C (10) 24 rfl dL_number_22 (by decide) ?_
    refine sj_irem C 25 rfl dL_number_24 (by decide) ?_
    rw [show nI v - nI v / 10 * 10 = nI (v % 10) from pk_rem (d := 10) (by omega) (by omega) (by omega)]
    refine sj_iadd C 26 rfl dL_number_25 ?_
    rw [show 48 + nI (v % 10) = nI (48 + (v % 10)) from nI_add 48 (v % 10)]
    obtain ⟨r1, hM1⟩ := sp_app _ hrt hI hY (c := 48 + (v % 10)) ⟨by omega, by omega⟩ (sp_numlen1 _ _ hT)
    refine sj_callSW C (sj_hN C) 29 rfl dL_number_26 cw_L_77 (sj_fitO rfl rfl (show 0 + 1 ≤ 2 by omega) (show 0 + 6 ≤ 12 by omega)) hM1 rfl rfl rfl (fun v1 U1 hp1 => ?_)
    obtain ⟨rfl, hY1⟩ := hp1
    refine sj_pop C 30 rfl dL_number_29 rfl ?_
    refine sj_vret C hR rfl rfl dL_number_30 ?_
    refine ⟨rfl, ?_⟩
    rw [sp_num_n (fun h9 => nI_ge (a := 9) h9 (by omega) c_3)]
    exact hY1
  · have h9 : 9 < v := Nat.not_le.mp (fun h8 => c_3 (nI_le (b := 9) h8 (by omega)))
    refine sj_aload_n C 7 rfl dL_number_6 rfl rfl ?_
    refine sj_bipush C (48) 9 rfl dL_number_7 (by decide) ?_
    refine sj_iload_n C 10 rfl dL_number_9 rfl rfl ?_
    refine sj_bipush C (10) 12 rfl dL_number_10 (by decide) ?_
    refine sj_idiv C 13 rfl dL_number_12 (by decide) ?_
    rw [show nI v / 10 = nI (v / 10) from sj_ndiv (b := 10) (by omega) (by omega)]
    refine sj_iadd C 14 rfl dL_number_13 ?_
    rw [show 48 + nI (v / 10) = nI (48 + (v / 10)) from nI_add 48 (v / 10)]
    obtain ⟨r2, hM2⟩ := sp_app _ hrt hI hY (c := 48 + (v / 10)) ⟨by omega, by omega⟩ (sp_numlen1 _ _ hT)
    refine sj_callSW C (sj_hN C) 17 rfl dL_number_14 cw_L_77 (sj_fitO rfl rfl (show 0 + 1 ≤ 2 by omega) (show 0 + 6 ≤ 12 by omega)) hM2 rfl rfl rfl (fun v2 U2 hp2 => ?_)
    obtain ⟨rfl, hY2⟩ := hp2
    refine sj_pop C 18 rfl dL_number_17 rfl ?_
    refine sj_aload_n C 19 rfl dL_number_18 rfl rfl ?_
    refine sj_bipush C (48) 21 rfl dL_number_19 (by decide) ?_
    refine sj_iload_n C 22 rfl dL_number_21 rfl rfl ?_
    refine sj_bipush C (10) 24 rfl dL_number_22 (by decide) ?_
    refine sj_irem C 25 rfl dL_number_24 (by decide) ?_
    rw [show nI v - nI v / 10 * 10 = nI (v % 10) from pk_rem (d := 10) (by omega) (by omega) (by omega)]
    refine sj_iadd C 26 rfl dL_number_25 ?_
    rw [show 48 + nI (v % 10) = nI (48 + (v % 10)) from nI_add 48 (v % 10)]
    obtain ⟨r3, hM3⟩ := sp_app _ hrt hI hY2 (c := 48 + (v % 10)) ⟨by omega, by omega⟩ (sp_numlen2 _ h9 hT)
    refine sj_callSW C (sj_hN C) 29 rfl dL_number_26 cw_L_77 (sj_fitO rfl rfl (show 0 + 1 + 1 ≤ 2 by omega) (show 0 + 6 + 6 ≤ 12 by omega)) hM3 rfl rfl rfl (fun v3 U3 hp3 => ?_)
    obtain ⟨rfl, hY3⟩ := hp3
    refine sj_pop C 30 rfl dL_number_29 rfl ?_
    refine sj_vret C hR rfl rfl dL_number_30 ?_
    refine ⟨rfl, ?_⟩
    rw [sp_num_y h9]
    rw [List.append_assoc] at hY3
    exact hY3
