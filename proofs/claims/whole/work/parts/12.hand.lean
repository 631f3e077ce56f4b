/-! THE REFERENCE: the hands -/
def sj_tn (x : Int32) : Nat := x.toNatClampNeg
def sj_jn (n : Nat) (f : Nat → Int32) (a c : Int32) : Nat → Int32 := fun k => if k < n ∧ (f k = a ∨ f k = c) then (if a < c then a else c) else f k
/-- the hands behind the first k oaths, but oath w -/
def sj_hnd (m : Nat → Int32) (w : Int32) : Nat → Nat → Int32
  | 0 => nI
  | k + 1 => if ¬ nI k = w ∧ sj_oa m k 2 = 1 then sj_jn (sj_tn (m 9)) (sj_hnd m w k) (sj_hnd m w k (sj_tn (sj_oa m k 0))) (sj_hnd m w k (sj_tn (sj_oa m k 1))) else sj_hnd m w k
/-- the numbers of sheets and oaths as they may be, and the oaths' ends -/
def sj_oav (m : Nat → Int32) : Prop := (m 9 = nI (sj_tn (m 9)) ∧ sj_tn (m 9) ≤ 8) ∧ (m 10 = nI (sj_tn (m 10)) ∧ sj_tn (m 10) ≤ 28) ∧ ∀ k, k < sj_tn (m 10) → (sj_oa m k 0 = nI (sj_tn (sj_oa m k 0)) ∧ sj_tn (sj_oa m k 0) < sj_tn (m 9)) ∧ (sj_oa m k 1 = nI (sj_tn (sj_oa m k 1)) ∧ sj_tn (sj_oa m k 1) < sj_tn (m 9)) ∧ (sj_oa m k 2 = 0 ∨ sj_oa m k 2 = 1)
def sj_hH (m : Nat → Int32) (w : Int32) : Nat → Int32 := sj_hnd m w (sj_tn (m 10))
def sj_scr (r : Option Value) (S : sj_St) (b : Nat → Nat) : Option Value → sj_St → Prop := fun v S' => v = r ∧ ∃ g, S' = sj_sIa S (b 15) g
theorem sj_jn_0 (f : Nat → Int32) (a c : Int32) : sj_jn 0 f a c = f := by
  funext j
  exact if_neg (by omega)
theorem sj_jn_k (k : Nat) (f : Nat → Int32) (a c : Int32) : sj_jn k f a c k = f k := if_neg (by omega)
theorem sj_jn_s {k : Nat} {f : Nat → Int32} {a c v : Int32} (hv : v = if f k = a ∨ f k = c then (if a < c then a else c) else f k) : upd (sj_jn k f a c) k v = sj_jn (k + 1) f a c := by
  subst hv
  funext j
  unfold upd sj_jn
  by_cases h : j = k
  · subst h
    rw [if_pos rfl]
    by_cases h2 : f j = a ∨ f j = c
    · rw [if_pos h2, if_pos (show j < j + 1 ∧ (f j = a ∨ f j = c) from ⟨by omega, h2⟩)]
    · rw [if_neg h2, if_neg (fun h3 => h2 h3.2)]
  · rw [if_neg h]
    by_cases h2 : j < k ∧ (f j = a ∨ f j = c)
    · rw [if_pos h2, if_pos (show j < k + 1 ∧ (f j = a ∨ f j = c) from ⟨by omega, h2.2⟩)]
    · rw [if_neg h2, if_neg (fun h3 => h2 ⟨by omega, h3.2⟩)]
theorem sj_jn_cp {n p q : Nat} (hn : n ≤ 8) (hp : p < 8) (hq : q < 8) (H f : Nat → Int32) : sj_jn n (sj_cp 8 H f) (sj_cp 8 H f p) (sj_cp 8 H f q) = sj_cp 8 (sj_jn n H (H p) (H q)) f := by
  have e1 : sj_cp 8 H f p = H p := if_pos hp
  have e2 : sj_cp 8 H f q = H q := if_pos hq
  rw [e1, e2]
  funext j
  by_cases h : j < 8
  · have e3 : sj_cp 8 H f j = H j := if_pos h
    have e4 : sj_cp 8 (sj_jn n H (H p) (H q)) f j = sj_jn n H (H p) (H q) j := if_pos h
    rw [e4]
    unfold sj_jn
    rw [e3]
  · have e3 : sj_cp 8 H f j = f j := if_neg h
    have e4 : sj_cp 8 (sj_jn n H (H p) (H q)) f j = f j := if_neg h
    rw [e4]
    unfold sj_jn
    rw [e3]
    exact if_neg (by omega)
theorem sj_cp_cp (n : Nat) (H G f : Nat → Int32) : sj_cp n H (sj_cp n G f) = sj_cp n H f := by
  funext j
  unfold sj_cp
  by_cases h : j < n
  · rw [if_pos h, if_pos h]
  · rw [if_neg h, if_neg h, if_neg h]
theorem sj_mo_ne {S : sj_St} {h : Nat} {b : Nat → Nat} (hm : sj_mo S h b) {i j : Nat} (hi : i < 16) (hj : j < 16) (hij : i ≠ j) : b i ≠ b j := fun e => hij (hm.2.2.2.2.2.2.2.2 i j hi hj e)
theorem sj_mm_15 {S : sj_St} {h : Nat} {b : Nat → Nat} {m : Nat → Int32} (hm : sj_mm S h b m) (g : Nat → Int32) : sj_mm (sj_sIa S (b 15) g) h b m := ⟨hm.1, (sj_ia_sIa_ne S g (sj_mo_ne hm.1 (by omega) (by omega) (by omega))).trans hm.2⟩
set_option maxRecDepth 100000 in
set_option maxHeartbeats 4000000 in
theorem ct_X7_join (l : Launch) {S : sj_St} {h : Nat} {b : Nat → Nat} {m : Nat → Int32} (hm : sj_mm S h b m) (i e n : Nat) (hi : i < 8) (he : e < 8) (h9 : m 9 = nI n) (hn8 : n ≤ 8) : sj_Ctr l mX7_join [.ref h, .int (nI i), .int (nI e)] S (sj_eq none (sj_sIa S (b 15) (sj_jn n (sj_ia S (b 15)) ((sj_ia S (b 15)) i) ((sj_ia S (b 15)) e)))) := by
  refine sj_start ([some (.ref h), some (.int (nI i)), some (.int (nI e)), none, none, none, none]) (by decide +kernel) rfl rfl (fun X hX C hR => ?_)
  subst hX
  have hm0 := hm
  obtain ⟨hm', em⟩ := hm0
  subst em
  obtain ⟨kd_h, ⟨rf_h_1, kd_a1, il_a1⟩, ⟨rf_h_2, kd_a2, il_a2⟩, ⟨rf_h_3, kd_a3, il_a3⟩, ⟨rf_h_5, kd_a5, il_a5⟩, ⟨rf_h_7, kd_a7, il_a7⟩, ⟨rf_h_13, kd_a13, il_a13⟩, ⟨rf_h_15, kd_a15, il_a15⟩, hinj⟩ := hm'
  have cut_32 : ∀ S', S' = sj_sIa S (b 15) (sj_jn 0 (sj_ia S (b 15)) ((sj_ia S (b 15)) i) ((sj_ia S (b 15)) e)) → sj_G X S' 0 0 [some (.ref h), some (.int (nI i)), some (.int (nI e)), some (.int ((sj_ia S (b 15)) i)), some (.int ((sj_ia S (b 15)) e)), some (.int (if (sj_ia S (b 15)) i < (sj_ia S (b 15)) e then (sj_ia S (b 15)) i else (sj_ia S (b 15)) e)), some (.int (nI 0))] 32 [] := by
    refine sj_down (fun k => ∀ S', S' = sj_sIa S (b 15) (sj_jn k (sj_ia S (b 15)) ((sj_ia S (b 15)) i) ((sj_ia S (b 15)) e)) → sj_G X S' 0 0 [some (.ref h), some (.int (nI i)), some (.int (nI e)), some (.int ((sj_ia S (b 15)) i)), some (.int ((sj_ia S (b 15)) e)), some (.int (if (sj_ia S (b 15)) i < (sj_ia S (b 15)) e then (sj_ia S (b 15)) i else (sj_ia S (b 15)) e)), some (.int (nI k))] 32 []) n (fun k hk ih => ?_)
    intro S' hS'
    subst hS'
    have er : sj_ia (sj_sIa S (b 15) (sj_jn k (sj_ia S (b 15)) ((sj_ia S (b 15)) i) ((sj_ia S (b 15)) e))) (b 15) (nI k).toNatClampNeg = (sj_ia S (b 15)) k := by rw [sj_ia_sIa, nI_clamp (by omega), sj_jn_k]
    have e9 : sj_ia (sj_sIa S (b 15) (sj_jn k (sj_ia S (b 15)) ((sj_ia S (b 15)) i) ((sj_ia S (b 15)) e))) (b 1) (nI 9).toNatClampNeg = nI n := by rw [sj_ia_sIa_ne S _ (sj_mo_ne hm.1 (by omega) (by omega) (by omega)), nI_clamp (by omega), h9]
    refine sj_iload C 34 rfl dX7_join_32 rfl ?_
    refine sj_aload_n C 35 rfl dX7_join_34 rfl rfl ?_
    refine sj_getr C 38 rfl fd_X7_7 dX7_join_35 kd_h rf_h_1 ?_
    refine sj_bipush C (9) 40 rfl dX7_join_38 (by decide) ?_
    refine sj_iald C 41 rfl dX7_join_40 kd_a1 (by show vp_in (nI 9) (sj_il S (b 1)); rw [il_a1]; exact vp_in_nI (by omega) (by omega)) ?_
    rw [show (9 : Int32) = nI 9 from rfl, e9]
    refine sj_icmp_ge C 92 44 rfl rfl dX7_join_41 (fun c_41 => ?_) (fun c_41 => ?_)
    · refine sj_vret C hR rfl rfl dX7_join_92 ?_
      have hkn : k = n := by
        have h8 : ¬ k < n := fun h7 => nI_ge h7 (by omega) c_41
        omega
      subst hkn
      exact ⟨rfl, rfl⟩
    · have hlt : k < n := Nat.not_le.mp fun h8 => c_41 (nI_le h8 (by omega))
      refine sj_aload_n C 45 rfl dX7_join_44 rfl rfl ?_
      refine sj_getr C 48 rfl fd_X7_28 dX7_join_45 kd_h rf_h_15 ?_
      refine sj_iload C 50 rfl dX7_join_48 rfl ?_
      refine sj_aload_n C 51 rfl dX7_join_50 rfl rfl ?_
      refine sj_getr C 54 rfl fd_X7_28 dX7_join_51 kd_h rf_h_15 ?_
      refine sj_iload C 56 rfl dX7_join_54 rfl ?_
      refine sj_iald C 57 rfl dX7_join_56 kd_a15 (by show vp_in (nI k) (sj_il S (b 15)); rw [il_a15]; exact vp_in_nI (by omega : k < 8) (by omega)) ?_
      rw [er]
      refine sj_iload_n C 58 rfl dX7_join_57 rfl rfl ?_
      refine sj_icmp_eq C 73 61 rfl rfl dX7_join_58 (fun c_58 => ?_) (fun c_58 => ?_)
      · refine sj_iload C 75 rfl dX7_join_73 rfl ?_
        refine sj_goto C 85 rfl dX7_join_75 ?_
        try rw [er]
        refine sj_iast C 86 rfl dX7_join_85 kd_a15 (by show vp_in (nI k) (sj_il S (b 15)); rw [il_a15]; exact vp_in_nI (by omega : k < 8) (by omega)) ?_
        refine sj_iinc_6 C 89 rfl dX7_join_86 rfl rfl ?_
        refine sj_goto C 32 rfl dX7_join_89 ?_
        rw [sj_n1]
        refine ih hlt _ ?_
        rw [sj_wIa_sIa, nI_clamp (by omega)]
        exact congrArg (sj_sIa S (b 15)) (sj_jn_s (if_pos (Or.inl c_58)).symm)
      · refine sj_aload_n C 62 rfl dX7_join_61 rfl rfl ?_
        refine sj_getr C 65 rfl fd_X7_28 dX7_join_62 kd_h rf_h_15 ?_
        refine sj_iload C 67 rfl dX7_join_65 rfl ?_
        refine sj_iald C 68 rfl dX7_join_67 kd_a15 (by show vp_in (nI k) (sj_il S (b 15)); rw [il_a15]; exact vp_in_nI (by omega : k < 8) (by omega)) ?_
        rw [er]
        refine sj_iload C 70 rfl dX7_join_68 rfl ?_
        refine sj_icmp_ne C 78 73 rfl rfl dX7_join_70 (fun c_70 => ?_) (fun c_70 => ?_)
        · refine sj_aload_n C 79 rfl dX7_join_78 rfl rfl ?_
          refine sj_getr C 82 rfl fd_X7_28 dX7_join_79 kd_h rf_h_15 ?_
          refine sj_iload C 84 rfl dX7_join_82 rfl ?_
          refine sj_iald C 85 rfl dX7_join_84 kd_a15 (by show vp_in (nI k) (sj_il S (b 15)); rw [il_a15]; exact vp_in_nI (by omega : k < 8) (by omega)) ?_
          try rw [er]
          refine sj_iast C 86 rfl dX7_join_85 kd_a15 (by show vp_in (nI k) (sj_il S (b 15)); rw [il_a15]; exact vp_in_nI (by omega : k < 8) (by omega)) ?_
          refine sj_iinc_6 C 89 rfl dX7_join_86 rfl rfl ?_
          refine sj_goto C 32 rfl dX7_join_89 ?_
          rw [sj_n1]
          refine ih hlt _ ?_
          rw [sj_wIa_sIa, nI_clamp (by omega)]
          exact congrArg (sj_sIa S (b 15)) (sj_jn_s (if_neg (fun h9 => h9.elim c_58 c_70)).symm)
        · refine sj_iload C 75 rfl dX7_join_73 rfl ?_
          refine sj_goto C 85 rfl dX7_join_75 ?_
          try rw [er]
          refine sj_iast C 86 rfl dX7_join_85 kd_a15 (by show vp_in (nI k) (sj_il S (b 15)); rw [il_a15]; exact vp_in_nI (by omega : k < 8) (by omega)) ?_
          refine sj_iinc_6 C 89 rfl dX7_join_86 rfl rfl ?_
          refine sj_goto C 32 rfl dX7_join_89 ?_
          rw [sj_n1]
          refine ih hlt _ ?_
          rw [sj_wIa_sIa, nI_clamp (by omega)]
          exact congrArg (sj_sIa S (b 15)) (sj_jn_s (if_pos (Or.inr c_70)).symm)
  refine sj_aload_n C 1 rfl dX7_join_0 rfl rfl ?_
  refine sj_getr C 4 rfl fd_X7_28 dX7_join_1 kd_h rf_h_15 ?_
  refine sj_iload_n C 5 rfl dX7_join_4 rfl rfl ?_
  refine sj_iald C 6 rfl dX7_join_5 kd_a15 (by show vp_in (nI i) (sj_il S (b 15)); rw [il_a15]; exact vp_in_nI hi (by omega)) ?_
  rw [nI_clamp (by omega)]
  refine sj_istore_n_3 C 7 rfl dX7_join_6 rfl rfl ?_
  refine sj_aload_n C 8 rfl dX7_join_7 rfl rfl ?_
  refine sj_getr C 11 rfl fd_X7_28 dX7_join_8 kd_h rf_h_15 ?_
  refine sj_iload_n C 12 rfl dX7_join_11 rfl rfl ?_
  refine sj_iald C 13 rfl dX7_join_12 kd_a15 (by show vp_in (nI e) (sj_il S (b 15)); rw [il_a15]; exact vp_in_nI he (by omega)) ?_
  rw [nI_clamp (by omega)]
  refine sj_istore_4 C 15 rfl dX7_join_13 rfl rfl ?_
  refine sj_iload_n C 16 rfl dX7_join_15 rfl rfl ?_
  refine sj_iload C 18 rfl dX7_join_16 rfl ?_
  refine sj_icmp_ge C 25 21 rfl rfl dX7_join_18 (fun c_18 => ?_) (fun c_18 => ?_)
  · refine sj_iload C 27 rfl dX7_join_25 rfl ?_
    refine sj_istore_5 C 29 rfl dX7_join_27 rfl rfl ?_
    refine sj_iconstv C (0) 30 rfl dX7_join_29 rfl ?_
    refine sj_istore_6 C 32 rfl dX7_join_30 rfl rfl ?_
    have h9 := cut_32 S (by rw [sj_jn_0, sj_sIa_id])
    rw [if_neg (sj_nlt.mpr c_18)] at h9
    exact h9
  · refine sj_iload_n C 22 rfl dX7_join_21 rfl rfl ?_
    refine sj_goto C 27 rfl dX7_join_22 ?_
    refine sj_istore_5 C 29 rfl dX7_join_27 rfl rfl ?_
    refine sj_iconstv C (0) 30 rfl dX7_join_29 rfl ?_
    refine sj_istore_6 C 32 rfl dX7_join_30 rfl rfl ?_
    have h9 := cut_32 S (by rw [sj_jn_0, sj_sIa_id])
    rw [if_pos (sj_nle.mp c_18)] at h9
    exact h9
set_option maxRecDepth 100000 in
set_option maxHeartbeats 4000000 in
theorem ct_X7_layHands (l : Launch) {S : sj_St} {h : Nat} {b : Nat → Nat} {m : Nat → Int32} (hm : sj_mm S h b m) (w : Int32) (hv : sj_oav m) : sj_Ctr l mX7_layHands [.ref h, .int w] S (sj_eq none (sj_sIa S (b 15) (sj_cp 8 (sj_hH m w) (sj_ia S (b 15))))) := by
  refine sj_start ([some (.ref h), some (.int w), none]) (by decide +kernel) rfl rfl (fun X hX C hR => ?_)
  subst hX
  have hm0 := hm
  obtain ⟨hm', em⟩ := hm0
  subst em
  obtain ⟨kd_h, ⟨rf_h_1, kd_a1, il_a1⟩, ⟨rf_h_2, kd_a2, il_a2⟩, ⟨rf_h_3, kd_a3, il_a3⟩, ⟨rf_h_5, kd_a5, il_a5⟩, ⟨rf_h_7, kd_a7, il_a7⟩, ⟨rf_h_13, kd_a13, il_a13⟩, ⟨rf_h_15, kd_a15, il_a15⟩, hinj⟩ := hm'
  obtain ⟨⟨h9, hn8⟩, ⟨h10, hn28⟩, hoa⟩ := id hv
  have cut_23 : ∀ S', S' = (sj_sIa S (b 15) (sj_cp 8 (sj_hnd (sj_ia S (b 1)) w 0) (sj_ia S (b 15)))) → sj_G X S' 0 0 [some (.ref h), some (.int w), some (.int (nI 0))] 23 [] := by
    refine sj_down (fun k => ∀ S', S' = (sj_sIa S (b 15) (sj_cp 8 (sj_hnd (sj_ia S (b 1)) w k) (sj_ia S (b 15)))) → sj_G X S' 0 0 [some (.ref h), some (.int w), some (.int (nI k))] 23 []) (sj_tn ((sj_ia S (b 1)) 10)) (fun k hk ih => ?_)
    intro S' hS'
    subst hS'
    have e9 : sj_ia (sj_sIa S (b 15) (sj_cp 8 (sj_hnd (sj_ia S (b 1)) w k) (sj_ia S (b 15)))) (b 1) (nI 10).toNatClampNeg = nI (sj_tn ((sj_ia S (b 1)) 10)) := by rw [sj_ia_sIa_ne S _ (sj_mo_ne hm.1 (by omega) (by omega) (by omega)), nI_clamp (by omega)]; exact h10
    refine sj_iload_n C 24 rfl dX7_layHands_23 rfl rfl ?_
    refine sj_aload_n C 25 rfl dX7_layHands_24 rfl rfl ?_
    refine sj_getr C 28 rfl fd_X7_7 dX7_layHands_25 kd_h rf_h_1 ?_
    refine sj_bipush C (10) 30 rfl dX7_layHands_28 (by decide) ?_
    refine sj_iald C 31 rfl dX7_layHands_30 kd_a1 (by show vp_in (nI 10) (sj_il S (b 1)); rw [il_a1]; exact vp_in_nI (by omega) (by omega)) ?_
    rw [show (10 : Int32) = nI 10 from rfl, e9]
    refine sj_icmp_ge C 71 34 rfl rfl dX7_layHands_31 (fun c_31 => ?_) (fun c_31 => ?_)
    · refine sj_vret C hR rfl rfl dX7_layHands_71 ?_
      have hkn : k = sj_tn ((sj_ia S (b 1)) 10) := by
        have h8 : ¬ k < sj_tn ((sj_ia S (b 1)) 10) := fun h7 => nI_ge h7 (by omega) c_31
        omega
      subst hkn
      exact ⟨rfl, rfl⟩
    · have hlt : k < sj_tn ((sj_ia S (b 1)) 10) := Nat.not_le.mp fun h8 => c_31 (nI_le h8 (by omega))
      obtain ⟨⟨ho0, ho0n⟩, ⟨ho1, ho1n⟩, ho2⟩ := hoa k hlt
      refine sj_iload_n C 35 rfl dX7_layHands_34 rfl rfl ?_
      refine sj_iload_n C 36 rfl dX7_layHands_35 rfl rfl ?_
      refine sj_icmp_eq C 65 39 rfl rfl dX7_layHands_36 (fun c_36 => ?_) (fun c_36 => ?_)
      · refine sj_iinc_2 C 68 rfl dX7_layHands_65 rfl rfl ?_
        refine sj_goto C 23 rfl dX7_layHands_68 ?_
        rw [sj_n1]
        refine ih hlt _ ?_
        show _ = sj_sIa S (b 15) (sj_cp 8 (if _ then _ else _) _)
        rw [if_neg (fun h9 => h9.1 c_36)]
      · refine sj_aload_n C 40 rfl dX7_layHands_39 rfl rfl ?_
        refine sj_iload_n C 41 rfl dX7_layHands_40 rfl rfl ?_
        refine sj_iconstv C (2) 42 rfl dX7_layHands_41 rfl ?_
        refine sj_callVd C 45 rfl dX7_layHands_42 cv_X7_98 rfl (ct_X7_ofOath _ (sj_mm_15 hm _) k 2 (by omega) (by omega)) rfl rfl rfl ⟨_, _, kd_h, rfl, rfl, by decide⟩ ⟨rfl, rfl⟩ ?_
        refine sj_iconstv C (1) 46 rfl dX7_layHands_45 rfl ?_
        refine sj_icmp_ne C 65 49 rfl rfl dX7_layHands_46 (fun c_46 => ?_) (fun c_46 => ?_)
        · refine sj_iinc_2 C 68 rfl dX7_layHands_65 rfl rfl ?_
          refine sj_goto C 23 rfl dX7_layHands_68 ?_
          rw [sj_n1]
          refine ih hlt _ ?_
          show _ = sj_sIa S (b 15) (sj_cp 8 (if _ then _ else _) _)
          rw [if_neg (fun h9 => c_46 h9.2)]
        · refine sj_aload_n C 50 rfl dX7_layHands_49 rfl rfl ?_
          refine sj_aload_n C 51 rfl dX7_layHands_50 rfl rfl ?_
          refine sj_iload_n C 52 rfl dX7_layHands_51 rfl rfl ?_
          refine sj_iconstv C (0) 53 rfl dX7_layHands_52 rfl ?_
          refine sj_callVd C 56 rfl dX7_layHands_53 cv_X7_98 rfl (ct_X7_ofOath _ (sj_mm_15 hm _) k 0 (by omega) (by omega)) rfl rfl rfl ⟨_, _, kd_h, rfl, rfl, by decide⟩ ⟨rfl, rfl⟩ ?_
          rw [ho0]
          refine sj_aload_n C 57 rfl dX7_layHands_56 rfl rfl ?_
          refine sj_iload_n C 58 rfl dX7_layHands_57 rfl rfl ?_
          refine sj_iconstv C (1) 59 rfl dX7_layHands_58 rfl ?_
          refine sj_callVd C 62 rfl dX7_layHands_59 cv_X7_98 rfl (ct_X7_ofOath _ (sj_mm_15 hm _) k 1 (by omega) (by omega)) rfl rfl rfl ⟨_, _, kd_h, rfl, rfl, by decide⟩ ⟨rfl, rfl⟩ ?_
          rw [ho1]
          refine sj_callVv C 65 rfl dX7_layHands_62 cv_X7_101 rfl (ct_X7_join _ (sj_mm_15 hm _) (sj_tn (sj_oa (sj_ia S (b 1)) k 0)) (sj_tn (sj_oa (sj_ia S (b 1)) k 1)) (sj_tn ((sj_ia S (b 1)) 9)) (by omega) (by omega) h9 hn8) rfl rfl rfl ⟨_, _, kd_h, rfl, rfl, by decide⟩ ⟨rfl, rfl⟩ ?_
          refine sj_iinc_2 C 68 rfl dX7_layHands_65 rfl rfl ?_
          refine sj_goto C 23 rfl dX7_layHands_68 ?_
          rw [sj_n1]
          refine ih hlt _ ?_
          show _ = sj_sIa S (b 15) (sj_cp 8 (if _ then _ else _) _)
          rw [if_pos ⟨c_36, c_46⟩, sj_sIa_sIa, sj_ia_sIa, sj_jn_cp hn8 (by omega) (by omega)]
  have cut_2 : ∀ S', S' = (sj_sIa S (b 15) (sj_cp 0 nI (sj_ia S (b 15)))) → sj_G X S' 0 0 [some (.ref h), some (.int w), some (.int (nI 0))] 2 [] := by
    refine sj_down (fun k => ∀ S', S' = (sj_sIa S (b 15) (sj_cp k nI (sj_ia S (b 15)))) → sj_G X S' 0 0 [some (.ref h), some (.int w), some (.int (nI k))] 2 []) 8 (fun k hk ih => ?_)
    intro S' hS'
    subst hS'
    refine sj_iload_n C 3 rfl dX7_layHands_2 rfl rfl ?_
    refine sj_bipush C (8) 5 rfl dX7_layHands_3 (by decide) ?_
    refine sj_icmp_ge C 21 8 rfl rfl dX7_layHands_5 (fun c_5 => ?_) (fun c_5 => ?_)
    · refine sj_iconstv C (0) 22 rfl dX7_layHands_21 rfl ?_
      refine sj_istore_n_2 C 23 rfl dX7_layHands_22 rfl rfl ?_
      have hk8 : k = 8 := by
        have h8 : ¬ k < 8 := fun h7 => nI_ge (b := 8) h7 (by omega) c_5
        omega
      subst hk8
      exact cut_23 _ rfl
    · have hlt : k < 8 := Nat.not_le.mp fun h9 => c_5 (nI_le (a := 8) h9 (by omega))
      refine sj_aload_n C 9 rfl dX7_layHands_8 rfl rfl ?_
      refine sj_getr C 12 rfl fd_X7_28 dX7_layHands_9 kd_h rf_h_15 ?_
      refine sj_iload_n C 13 rfl dX7_layHands_12 rfl rfl ?_
      refine sj_iload_n C 14 rfl dX7_layHands_13 rfl rfl ?_
      refine sj_iast C 15 rfl dX7_layHands_14 kd_a15 (by show vp_in (nI k) (sj_il S (b 15)); rw [il_a15]; exact vp_in_nI hlt (by omega)) ?_
      refine sj_iinc_2 C 18 rfl dX7_layHands_15 rfl rfl ?_
      refine sj_goto C 2 rfl dX7_layHands_18 ?_
      rw [sj_n1]
      refine ih hlt _ ?_
      rw [sj_wIa_sIa, nI_clamp (by omega)]
      rw [sj_cp_s]
  refine sj_iconstv C (0) 1 rfl dX7_layHands_0 rfl ?_
  refine sj_istore_n_2 C 2 rfl dX7_layHands_1 rfl rfl ?_
  exact cut_2 S (by rw [sj_cp_0, sj_sIa_id])
