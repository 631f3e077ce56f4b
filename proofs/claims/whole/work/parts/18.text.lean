/-! THE REFERENCE: texts -/
def sj_ps (S : sj_St) (h : Nat) (b : Nat → Nat) (n : Nat) (B : Nat → Int32) (p : Nat) : Prop := sj_fi S h 8 = nI n ∧ n ≤ 60 ∧ sj_fi S h 9 = nI p ∧ p ≤ n ∧ sj_ia S (b 7) = B
def sj_nx (B : Nat → Int32) (n p : Nat) : Int32 := if p < n then B p else 0
def sj_tk (B : Nat → Int32) (n : Nat) (c : Int32) (p : Nat) : Nat := if sj_nx B n p = c then p + 1 else p
def sj_rdn (B : Nat → Int32) (n : Nat) (a z : Int32) (p : Nat) : Int32 × Nat :=
  if sj_wi (sj_nx B n p - 48) a 9 = false ∨ z < sj_nx B n p - 48 then (-1, p)
  else if 0 < sj_nx B n p - 48 ∧ sj_wi (sj_nx B n (p + 1)) 48 57 = true ∧ 10 * (sj_nx B n p - 48) + sj_nx B n (p + 1) - 48 ≤ z then (10 * (sj_nx B n p - 48) + sj_nx B n (p + 1) - 48, p + 2)
  else (sj_nx B n p - 48, p + 1)
theorem sj_nx_lt {B : Nat → Int32} {n p : Nat} (h : ¬ sj_nx B n p = 0) : p < n := Nat.not_le.mp fun h1 => h (if_neg (Nat.not_lt.mpr h1))
theorem sj_tk_le {B : Nat → Int32} {n p : Nat} {c : Int32} (hc : ¬ c = 0) (hp : p ≤ n) : sj_tk B n c p ≤ n := by
  unfold sj_tk
  by_cases h : sj_nx B n p = c
  · rw [if_pos h]
    exact sj_nx_lt (by rw [h]; exact hc)
  · rw [if_neg h]
    exact hp
theorem sj_nx_dig {B : Nat → Int32} {n p : Nat} {a : Int32} (ha : 0 ≤ a) (h : sj_wi (sj_nx B n p - 48) a 9 = true) : p < n := by
  refine sj_nx_lt (B := B) (fun h0 => ?_)
  rw [h0] at h
  have h1 := (sj_wi_iff.mp h).1
  exact absurd (Int32.le_trans ha h1) (by decide)
theorem sj_rdn_le {B : Nat → Int32} {n p : Nat} {a z : Int32} (ha : 0 ≤ a) (hp : p ≤ n) : (sj_rdn B n a z p).2 ≤ n := by
  unfold sj_rdn
  by_cases h : sj_wi (sj_nx B n p - 48) a 9 = false ∨ z < sj_nx B n p - 48
  · rw [if_pos h]
    exact hp
  · rw [if_neg h]
    have h1 : p < n := sj_nx_dig ha (by
      cases h2 : sj_wi (sj_nx B n p - 48) a 9 with
      | true => rfl
      | false => exact absurd (Or.inl h2) h)
    by_cases h3 : 0 < sj_nx B n p - 48 ∧ sj_wi (sj_nx B n (p + 1)) 48 57 = true ∧ 10 * (sj_nx B n p - 48) + sj_nx B n (p + 1) - 48 ≤ z
    · rw [if_pos h3]
      have h4 : p + 1 < n := sj_nx_lt (B := B) (fun h0 => by
        have h5 := h3.2.1
        rw [h0] at h5
        exact absurd h5 (by decide))
      exact h4
    · rw [if_neg h3]
      exact h1
theorem sj_wFi_id {S : sj_St} {a k : Nat} {v : Int32} (h : sj_fi S a k = v) : sj_wFi S a k v = S := by
  subst h
  unfold sj_wFi sj_fi
  rw [sj_up_id, sj_up_id]
theorem sj_ps_f {S : sj_St} {h : Nat} {b : Nat → Nat} {n : Nat} {B : Nat → Int32} {p q : Nat} (hp : sj_ps S h b n B p) (hq : q ≤ n) : sj_ps (sj_wFi S h 9 (nI q)) h b n B q := ⟨(sj_fi_wFi_k S h _ (by omega)).trans hp.1, hp.2.1, sj_fi_wFi S h 9 _, hq, hp.2.2.2.2⟩
set_option maxRecDepth 100000 in
set_option maxHeartbeats 4000000 in
theorem ct_X7_next (l : Launch) {S : sj_St} {h : Nat} {b : Nat → Nat} {m : Nat → Int32} (hm : sj_mm S h b m) {n p : Nat} {B : Nat → Int32} (hps : sj_ps S h b n B p) : sj_Ctr l mX7_next [.ref h] S (sj_eq (some (.int (sj_nx B n p))) S) := by
  refine sj_start ([some (.ref h)]) (by decide +kernel) rfl rfl (fun X hX C hR => ?_)
  subst hX
  have hm0 := hm
  obtain ⟨hm', em⟩ := hm0
  subst em
  obtain ⟨kd_h, ⟨rf_h_1, kd_a1, il_a1⟩, ⟨rf_h_2, kd_a2, il_a2⟩, ⟨rf_h_3, kd_a3, il_a3⟩, ⟨rf_h_5, kd_a5, il_a5⟩, ⟨rf_h_7, kd_a7, il_a7⟩, ⟨rf_h_13, kd_a13, il_a13⟩, ⟨rf_h_15, kd_a15, il_a15⟩, hinj⟩ := hm'
  obtain ⟨hn, hn60, hp, hpn, hB⟩ := id hps
  subst hB
  refine sj_aload_n C 1 rfl dX7_next_0 rfl rfl ?_
  refine sj_getI C 4 rfl fd_X7_161 dX7_next_1 kd_h ?_
  refine sj_aload_n C 5 rfl dX7_next_4 rfl rfl ?_
  refine sj_getI C 8 rfl fd_X7_139 dX7_next_5 kd_h ?_
  rw [hp, hn]
  refine sj_icmp_ge C 23 11 rfl rfl dX7_next_8 (fun c_8 => ?_) (fun c_8 => ?_)
  · refine sj_iconstv C (0) 24 rfl dX7_next_23 rfl ?_
    refine sj_iret C hR rfl rfl dX7_next_24 ?_
    refine ⟨congrArg (fun z => some (Value.int z)) ?_, rfl⟩
    unfold sj_nx
    rw [if_neg (Nat.not_lt.mpr ((nI_leI (by omega) (by omega)).mp c_8))]
  · refine sj_aload_n C 12 rfl dX7_next_11 rfl rfl ?_
    refine sj_getr C 15 rfl fd_X7_22 dX7_next_12 kd_h rf_h_7 ?_
    refine sj_aload_n C 16 rfl dX7_next_15 rfl rfl ?_
    refine sj_getI C 19 rfl fd_X7_161 dX7_next_16 kd_h ?_
    rw [hp]
    refine sj_iald C 20 rfl dX7_next_19 kd_a7 (by show vp_in (nI p) (sj_il S (b 7)); rw [il_a7]; exact vp_in_nI (by have := (nI_ltI (a := p) (b := n) (by omega) (by omega)).mp (sj_nle.mp c_8); omega) (by omega)) ?_
    refine sj_goto C 24 rfl dX7_next_20 ?_
    refine sj_iret C hR rfl rfl dX7_next_24 ?_
    refine ⟨congrArg (fun z => some (Value.int z)) ?_, rfl⟩
    unfold sj_nx
    rw [if_pos ((nI_ltI (by omega) (by omega)).mp (sj_nle.mp c_8)), nI_clamp (by omega)]
set_option maxRecDepth 100000 in
set_option maxHeartbeats 4000000 in
theorem ct_X7_takes (l : Launch) {S : sj_St} {h : Nat} {b : Nat → Nat} {m : Nat → Int32} (hm : sj_mm S h b m) {n p : Nat} {B : Nat → Int32} (hps : sj_ps S h b n B p) (c : Int32) : sj_Ctr l mX7_takes [.ref h, .int c] S (sj_eq (some (.int (sj_bi (decide (sj_nx B n p = c))))) (sj_wFi S h 9 (nI (sj_tk B n c p)))) := by
  refine sj_start ([some (.ref h), some (.int c), none]) (by decide +kernel) rfl rfl (fun X hX C hR => ?_)
  subst hX
  have hm0 := hm
  obtain ⟨hm', em⟩ := hm0
  subst em
  obtain ⟨kd_h, ⟨rf_h_1, kd_a1, il_a1⟩, ⟨rf_h_2, kd_a2, il_a2⟩, ⟨rf_h_3, kd_a3, il_a3⟩, ⟨rf_h_5, kd_a5, il_a5⟩, ⟨rf_h_7, kd_a7, il_a7⟩, ⟨rf_h_13, kd_a13, il_a13⟩, ⟨rf_h_15, kd_a15, il_a15⟩, hinj⟩ := hm'
  obtain ⟨hn, hn60, hp, hpn, hB⟩ := id hps
  subst hB
  refine sj_aload_n C 1 rfl dX7_takes_0 rfl rfl ?_
  refine sj_callVd C 4 rfl dX7_takes_1 cv_X7_164 rfl (ct_X7_next _ hm hps) rfl rfl rfl ⟨_, _, kd_h, rfl, rfl, by decide⟩ ⟨rfl, rfl⟩ ?_
  refine sj_iload_n C 5 rfl dX7_takes_4 rfl rfl ?_
  refine sj_icmp_ne C 12 8 rfl rfl dX7_takes_5 (fun c_5 => ?_) (fun c_5 => ?_)
  · refine sj_iconstv C (0) 13 rfl dX7_takes_12 rfl ?_
    refine sj_istore_n_2 C 14 rfl dX7_takes_13 rfl rfl ?_
    refine sj_aload_n C 15 rfl dX7_takes_14 rfl rfl ?_
    refine sj_dup C 16 rfl dX7_takes_15 rfl ?_
    refine sj_getI C 19 rfl fd_X7_161 dX7_takes_16 kd_h ?_
    refine sj_iload_n C 20 rfl dX7_takes_19 rfl rfl ?_
    refine sj_if_eq C 27 23 rfl rfl dX7_takes_20 (fun c_20 => ?_) (fun c_20 => ?_)
    · skip
      refine sj_iconstv C (0) 28 rfl dX7_takes_27 rfl ?_
      refine sj_iadd C 29 rfl dX7_takes_28 ?_
      rw [hp, Int32.add_zero]
      refine sj_putI C 32 rfl fd_X7_161 dX7_takes_29 rfl rfl kd_h ?_
      refine sj_iload_n C 33 rfl dX7_takes_32 rfl rfl ?_
      refine sj_zret C hR rfl rfl rfl dX7_takes_33 ?_
      refine ⟨congrArg (fun z => some (Value.int z)) ?_, ?_⟩
      · rw [decide_eq_false c_5]
        rfl
      · unfold sj_tk
        rw [if_neg c_5]
    · exact absurd rfl c_20
  · refine sj_iconstv C (1) 9 rfl dX7_takes_8 rfl ?_
    refine sj_goto C 13 rfl dX7_takes_9 ?_
    refine sj_istore_n_2 C 14 rfl dX7_takes_13 rfl rfl ?_
    refine sj_aload_n C 15 rfl dX7_takes_14 rfl rfl ?_
    refine sj_dup C 16 rfl dX7_takes_15 rfl ?_
    refine sj_getI C 19 rfl fd_X7_161 dX7_takes_16 kd_h ?_
    refine sj_iload_n C 20 rfl dX7_takes_19 rfl rfl ?_
    refine sj_if_eq C 27 23 rfl rfl dX7_takes_20 (fun c_20 => ?_) (fun c_20 => ?_)
    · exact absurd c_20 (by decide)
    · skip
      refine sj_iconstv C (1) 24 rfl dX7_takes_23 rfl ?_
      refine sj_goto C 28 rfl dX7_takes_24 ?_
      refine sj_iadd C 29 rfl dX7_takes_28 ?_
      rw [hp, nI_1]
      refine sj_putI C 32 rfl fd_X7_161 dX7_takes_29 rfl rfl kd_h ?_
      refine sj_iload_n C 33 rfl dX7_takes_32 rfl rfl ?_
      refine sj_zret C hR rfl rfl rfl dX7_takes_33 ?_
      refine ⟨congrArg (fun z => some (Value.int z)) ?_, ?_⟩
      · rw [decide_eq_true c_5]
        rfl
      · unfold sj_tk
        rw [if_pos c_5]
set_option maxRecDepth 100000 in
set_option maxHeartbeats 4000000 in
theorem ct_X7_readNumber (l : Launch) {S : sj_St} {h : Nat} {b : Nat → Nat} {m : Nat → Int32} (hm : sj_mm S h b m) {n p : Nat} {B : Nat → Int32} (hps : sj_ps S h b n B p) (a z : Int32) (ha : 0 ≤ a) : sj_Ctr l mX7_readNumber [.ref h, .int a, .int z] S (sj_eq (some (.int (sj_rdn B n a z p).1)) (sj_wFi S h 9 (nI (sj_rdn B n a z p).2))) := by
  refine sj_start ([some (.ref h), some (.int a), some (.int z), none]) (by decide +kernel) rfl rfl (fun X hX C hR => ?_)
  subst hX
  have hm0 := hm
  obtain ⟨hm', em⟩ := hm0
  subst em
  obtain ⟨kd_h, ⟨rf_h_1, kd_a1, il_a1⟩, ⟨rf_h_2, kd_a2, il_a2⟩, ⟨rf_h_3, kd_a3, il_a3⟩, ⟨rf_h_5, kd_a5, il_a5⟩, ⟨rf_h_7, kd_a7, il_a7⟩, ⟨rf_h_13, kd_a13, il_a13⟩, ⟨rf_h_15, kd_a15, il_a15⟩, hinj⟩ := hm'
  obtain ⟨hn, hn60, hp, hpn, hB⟩ := id hps
  subst hB
  refine sj_aload_n C 1 rfl dX7_readNumber_0 rfl rfl ?_
  refine sj_callVd C 4 rfl dX7_readNumber_1 cv_X7_164 rfl (ct_X7_next _ hm hps) rfl rfl rfl ⟨_, _, kd_h, rfl, rfl, by decide⟩ ⟨rfl, rfl⟩ ?_
  refine sj_bipush C (48) 6 rfl dX7_readNumber_4 (by decide) ?_
  refine sj_isub C 7 rfl dX7_readNumber_6 ?_
  refine sj_istore_n_3 C 8 rfl dX7_readNumber_7 rfl rfl ?_
  refine sj_iload_n C 9 rfl dX7_readNumber_8 rfl rfl ?_
  refine sj_iload_n C 10 rfl dX7_readNumber_9 rfl rfl ?_
  refine sj_bipush C (9) 12 rfl dX7_readNumber_10 (by decide) ?_
  refine sj_callSd C 15 rfl dX7_readNumber_12 cv_X7_35 rfl (ct_X7_within _ _ _ _ _) rfl rfl rfl ⟨rfl, rfl⟩ ?_
  refine sj_if_eq C 23 18 rfl rfl dX7_readNumber_15 (fun c_15 => ?_) (fun c_15 => ?_)
  · refine sj_iconstv C (-1) 24 rfl dX7_readNumber_23 rfl ?_
    refine sj_iret C hR rfl rfl dX7_readNumber_24 ?_
    refine ⟨congrArg (fun z => some (Value.int z)) ?_, ?_⟩
    · unfold sj_rdn
      rw [if_pos (Or.inl (sj_bi0.mp c_15))]
    · unfold sj_rdn
      rw [if_pos (Or.inl (sj_bi0.mp c_15))]
      exact (sj_wFi_id hp).symm
  · refine sj_iload_n C 19 rfl dX7_readNumber_18 rfl rfl ?_
    refine sj_iload_n C 20 rfl dX7_readNumber_19 rfl rfl ?_
    refine sj_icmp_le C 25 23 rfl rfl dX7_readNumber_20 (fun c_20 => ?_) (fun c_20 => ?_)
    · have hp1 : p + 1 ≤ n := sj_nx_dig ha (sj_bin.mp c_15)
      refine sj_aload_n C 26 rfl dX7_readNumber_25 rfl rfl ?_
      refine sj_dup C 27 rfl dX7_readNumber_26 rfl ?_
      refine sj_getI C 30 rfl fd_X7_161 dX7_readNumber_27 kd_h ?_
      refine sj_iconstv C (1) 31 rfl dX7_readNumber_30 rfl ?_
      refine sj_iadd C 32 rfl dX7_readNumber_31 ?_
      rw [hp, nI_1]
      refine sj_putI C 35 rfl fd_X7_161 dX7_readNumber_32 rfl rfl kd_h ?_
      refine sj_iload_n C 36 rfl dX7_readNumber_35 rfl rfl ?_
      refine sj_if_le C 92 39 rfl rfl dX7_readNumber_36 (fun c_36 => ?_) (fun c_36 => ?_)
      · refine sj_iload_n C 93 rfl dX7_readNumber_92 rfl rfl ?_
        refine sj_iret C hR rfl rfl dX7_readNumber_93 ?_
        refine ⟨congrArg (fun z => some (Value.int z)) ?_, ?_⟩
        · unfold sj_rdn
          rw [if_neg (fun h8 => h8.elim (fun h7 => by rw [sj_bin.mp c_15] at h7; cases h7) (sj_nlt.mpr c_20)), if_neg (fun h8 => absurd h8.1 (sj_nlt.mpr c_36))]
        · unfold sj_rdn
          rw [if_neg (fun h8 => h8.elim (fun h7 => by rw [sj_bin.mp c_15] at h7; cases h7) (sj_nlt.mpr c_20)), if_neg (fun h8 => absurd h8.1 (sj_nlt.mpr c_36))]
      · refine sj_aload_n C 40 rfl dX7_readNumber_39 rfl rfl ?_
        refine sj_callVd C 43 rfl dX7_readNumber_40 cv_X7_164 rfl (ct_X7_next _ (sj_mm_f hm h 9 _) (sj_ps_f hps hp1)) rfl rfl rfl ⟨_, _, kd_h, rfl, rfl, by decide⟩ ⟨rfl, rfl⟩ ?_
        refine sj_bipush C (48) 45 rfl dX7_readNumber_43 (by decide) ?_
        refine sj_bipush C (57) 47 rfl dX7_readNumber_45 (by decide) ?_
        refine sj_callSd C 50 rfl dX7_readNumber_47 cv_X7_35 rfl (ct_X7_within _ _ _ _ _) rfl rfl rfl ⟨rfl, rfl⟩ ?_
        refine sj_if_eq C 92 53 rfl rfl dX7_readNumber_50 (fun c_50 => ?_) (fun c_50 => ?_)
        · refine sj_iload_n C 93 rfl dX7_readNumber_92 rfl rfl ?_
          refine sj_iret C hR rfl rfl dX7_readNumber_93 ?_
          refine ⟨congrArg (fun z => some (Value.int z)) ?_, ?_⟩
          · unfold sj_rdn
            rw [if_neg (fun h8 => h8.elim (fun h7 => by rw [sj_bin.mp c_15] at h7; cases h7) (sj_nlt.mpr c_20)), if_neg (fun h8 => by rw [sj_bi0.mp c_50] at h8; cases h8.2.1)]
          · unfold sj_rdn
            rw [if_neg (fun h8 => h8.elim (fun h7 => by rw [sj_bin.mp c_15] at h7; cases h7) (sj_nlt.mpr c_20)), if_neg (fun h8 => by rw [sj_bi0.mp c_50] at h8; cases h8.2.1)]
        · refine sj_bipush C (10) 55 rfl dX7_readNumber_53 (by decide) ?_
          refine sj_iload_n C 56 rfl dX7_readNumber_55 rfl rfl ?_
          refine sj_imul C 57 rfl dX7_readNumber_56 ?_
          refine sj_aload_n C 58 rfl dX7_readNumber_57 rfl rfl ?_
          refine sj_callVd C 61 rfl dX7_readNumber_58 cv_X7_164 rfl (ct_X7_next _ (sj_mm_f hm h 9 _) (sj_ps_f hps hp1)) rfl rfl rfl ⟨_, _, kd_h, rfl, rfl, by decide⟩ ⟨rfl, rfl⟩ ?_
          refine sj_iadd C 62 rfl dX7_readNumber_61 ?_
          refine sj_bipush C (48) 64 rfl dX7_readNumber_62 (by decide) ?_
          refine sj_isub C 65 rfl dX7_readNumber_64 ?_
          refine sj_iload_n C 66 rfl dX7_readNumber_65 rfl rfl ?_
          refine sj_icmp_gt C 92 69 rfl rfl dX7_readNumber_66 (fun c_66 => ?_) (fun c_66 => ?_)
          · refine sj_iload_n C 93 rfl dX7_readNumber_92 rfl rfl ?_
            refine sj_iret C hR rfl rfl dX7_readNumber_93 ?_
            refine ⟨congrArg (fun z => some (Value.int z)) ?_, ?_⟩
            · unfold sj_rdn
              rw [if_neg (fun h8 => h8.elim (fun h7 => by rw [sj_bin.mp c_15] at h7; cases h7) (sj_nlt.mpr c_20)), if_neg (fun h8 => absurd h8.2.2 (sj_nle.mpr c_66))]
            · unfold sj_rdn
              rw [if_neg (fun h8 => h8.elim (fun h7 => by rw [sj_bin.mp c_15] at h7; cases h7) (sj_nlt.mpr c_20)), if_neg (fun h8 => absurd h8.2.2 (sj_nle.mpr c_66))]
          · refine sj_bipush C (10) 71 rfl dX7_readNumber_69 (by decide) ?_
            refine sj_iload_n C 72 rfl dX7_readNumber_71 rfl rfl ?_
            refine sj_imul C 73 rfl dX7_readNumber_72 ?_
            refine sj_aload_n C 74 rfl dX7_readNumber_73 rfl rfl ?_
            refine sj_callVd C 77 rfl dX7_readNumber_74 cv_X7_164 rfl (ct_X7_next _ (sj_mm_f hm h 9 _) (sj_ps_f hps hp1)) rfl rfl rfl ⟨_, _, kd_h, rfl, rfl, by decide⟩ ⟨rfl, rfl⟩ ?_
            refine sj_iadd C 78 rfl dX7_readNumber_77 ?_
            refine sj_bipush C (48) 80 rfl dX7_readNumber_78 (by decide) ?_
            refine sj_isub C 81 rfl dX7_readNumber_80 ?_
            refine sj_istore_n_3 C 82 rfl dX7_readNumber_81 rfl rfl ?_
            refine sj_aload_n C 83 rfl dX7_readNumber_82 rfl rfl ?_
            refine sj_dup C 84 rfl dX7_readNumber_83 rfl ?_
            refine sj_getI C 87 rfl fd_X7_161 dX7_readNumber_84 kd_h ?_
            refine sj_iconstv C (1) 88 rfl dX7_readNumber_87 rfl ?_
            refine sj_iadd C 89 rfl dX7_readNumber_88 ?_
            rw [show sj_fi (sj_wFi S h 9 (nI (p + 1))) h 9 = nI (p + 1) from sj_fi_wFi S h 9 _, nI_1]
            refine sj_putI C 92 rfl fd_X7_161 dX7_readNumber_89 rfl rfl kd_h ?_
            refine sj_iload_n C 93 rfl dX7_readNumber_92 rfl rfl ?_
            refine sj_iret C hR rfl rfl dX7_readNumber_93 ?_
            refine ⟨congrArg (fun z => some (Value.int z)) ?_, ?_⟩
            · unfold sj_rdn
              rw [if_neg (fun h8 => h8.elim (fun h7 => by rw [sj_bin.mp c_15] at h7; cases h7) (sj_nlt.mpr c_20)), if_pos ⟨sj_nle.mp c_36, sj_bin.mp c_50, sj_nlt.mp c_66⟩]
            · unfold sj_rdn
              rw [if_neg (fun h8 => h8.elim (fun h7 => by rw [sj_bin.mp c_15] at h7; cases h7) (sj_nlt.mpr c_20)), if_pos ⟨sj_nle.mp c_36, sj_bin.mp c_50, sj_nlt.mp c_66⟩]
              exact sj_wFi_wFi S h 9 _ _
    · refine sj_iconstv C (-1) 24 rfl dX7_readNumber_23 rfl ?_
      refine sj_iret C hR rfl rfl dX7_readNumber_24 ?_
      refine ⟨congrArg (fun z => some (Value.int z)) ?_, ?_⟩
      · unfold sj_rdn
        rw [if_pos (Or.inr (sj_nle.mp c_20))]
      · unfold sj_rdn
        rw [if_pos (Or.inr (sj_nle.mp c_20))]
        exact (sj_wFi_id hp).symm
