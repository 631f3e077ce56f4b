/-! THE REFERENCE: laying a sheet; a likeness behind some years -/
def sj_ly1 (m : Nat → Int32) (ns : Nat) (age : Int32) (k : Nat) : Nat → Int32 := upd (upd m (98 + 42 * ns) age) (98 + 42 * ns + 1) (nI k)
def sj_lyf (k : Nat) (f : Nat → Int32) : Nat → Int32 := fun j => if j < 5 * k then f j else 0
def sj_ly2 (m : Nat → Int32) (ns : Nat) (age : Int32) (k : Nat) (f : Nat → Int32) (j : Nat) : Nat → Int32 := sj_cpo (98 + 42 * ns + 2) j (sj_lyf k f) (sj_ly1 m ns age k)
def sj_lay (m : Nat → Int32) (ns : Nat) (age : Int32) (k : Nat) (f : Nat → Int32) : Nat → Int32 := upd (sj_ly2 m ns age k f 40) 9 (nI (ns + 1))
theorem sj_ly2_9 (m : Nat → Int32) (ns : Nat) (age : Int32) (k : Nat) (f : Nat → Int32) (j : Nat) : sj_ly2 m ns age k f j 9 = m 9 := by
  unfold sj_ly2 sj_cpo sj_ly1
  rw [if_neg (by omega), sj_upd_ne _ _ (by omega), sj_upd_ne _ _ (by omega)]
theorem sj_shx_k8 (B : Nat → Int32) (n : Nat) : ∀ (j k p : Nat) (f : Nat → Int32), k + j ≤ 8 → (sj_shx B n j k p f).2.2.1 ≤ 8
  | 0, k, p, f, h => by
    show k ≤ 8
    omega
  | j + 1, k, p, f, h => by
    have hk2 : sj_k2 (sj_rst B n p) k ≤ k + 1 := by
      unfold sj_k2
      split <;> omega
    by_cases h1 : (sj_rst B n p).1 = false
    · rw [sj_shx_1 h1]
      show sj_k2 _ _ ≤ 8
      omega
    · by_cases h2 : (sj_rst B n p).2.1 = n
      · rw [sj_shx_2 h1 h2]
        show k + 1 ≤ 8
        omega
      · by_cases h3 : k + 1 = 8
        · rw [sj_shx_3 h1 h2 h3]
          show k + 1 ≤ 8
          omega
        · by_cases h4 : sj_nx B n (sj_rst B n p).2.1 = 44
          · rw [sj_shx_4 h1 h2 h3 h4]
            exact sj_shx_k8 B n j (k + 1) _ _ (by omega)
          · rw [sj_shx_5 h1 h2 h3 h4]
            show k + 1 ≤ 8
            omega
/-- where the reading of a sheet's text ends -/
def sj_lyT (S : sj_St) (h : Nat) (b : Nat → Nat) (r : Int32 × Nat × Nat × (Nat → Int32)) : sj_St := sj_tS (sj_wFi S h 0 0) h b r.2.1 r.2.2.1 r.2.2.2
def sj_lyU (S : sj_St) (h : Nat) (b : Nat → Nat) (q : Nat) (m : Nat → Int32) (r : Int32 × Nat × Nat × (Nat → Int32)) : sj_St := sj_wFi (sj_sIa (sj_lyT S h b r) (b 3) (sj_sv q m (sj_ia (sj_lyT S h b r) (b 3)))) h 4 (nI (sj_qn q + 1))
theorem sj_lyU_mm {S : sj_St} {h : Nat} {b : Nat → Nat} {m : Nat → Int32} (hm : sj_mm S h b m) (q : Nat) (r : Int32 × Nat × Nat × (Nat → Int32)) : sj_mm (sj_lyU S h b q m r) h b m := ⟨hm.1, (sj_ia_sIa_ne (sj_lyT S h b r) _ (sj_mo_ne hm.1 (i := 1) (j := 3) (by omega) (by omega) (by omega))).trans (sj_tS_mm (sj_mm_f hm h 0 0) _ _ _).2⟩
set_option maxRecDepth 100000 in
set_option maxHeartbeats 2500000 in
theorem ct_X7_lay_1 (l : Launch) {S : sj_St} {h : Nat} {b : Nat → Nat} {m : Nat → Int32} (hm : sj_mm S h b m) {n p0 : Nat} {B : Nat → Int32} (hps : sj_ps S h b n B p0) (r9 : Int32 × Nat × Nat × (Nat → Int32)) (hrd : sj_sht B n (sj_ia (sj_wFi S h 0 0) (b 13)) = r9) (age : Int32) (hb : ¬ r9.1 = -1 ∨ sj_wi age 0 99 = false) : sj_Ctr l mX7_lay [.ref h, .int age] S (sj_eq (some (.int 0)) (sj_wFi (sj_lyT S h b r9) h 0 1)) := by
  refine sj_start ([some (.ref h), some (.int age), none, none]) (by decide +kernel) rfl rfl (fun X hX C hR => ?_)
  subst hX
  have hm0 := hm
  obtain ⟨hm', em⟩ := hm0
  subst em
  obtain ⟨kd_h, ⟨rf_h_1, kd_a1, il_a1⟩, ⟨rf_h_2, kd_a2, il_a2⟩, ⟨rf_h_3, kd_a3, il_a3⟩, ⟨rf_h_5, kd_a5, il_a5⟩, ⟨rf_h_7, kd_a7, il_a7⟩, ⟨rf_h_13, kd_a13, il_a13⟩, ⟨rf_h_15, kd_a15, il_a15⟩, hinj⟩ := hm'
  have hmz := sj_mm_f hm h 0 0
  obtain ⟨hn, hn60, hp0, hpn0, hB⟩ := id hps
  subst hB
  refine sj_aload_n C 1 rfl dX7_lay_0 rfl rfl ?_
  refine sj_iconstv C (0) 2 rfl dX7_lay_1 rfl ?_
  refine sj_putI C 5 rfl fd_X7_31 dX7_lay_2 rfl rfl kd_h ?_
  refine sj_aload_n C 6 rfl dX7_lay_5 rfl rfl ?_
  refine sj_callVd C 9 rfl dX7_lay_6 cv_X7_132 rfl (ct_X7_isSheetText _ hmz (sj_ps_0 hps)) rfl rfl rfl ⟨_, _, kd_h, rfl, rfl, by decide⟩ ⟨rfl, rfl⟩ ?_
  rw [hrd]
  rw [show sj_tS (sj_wFi S h 0 0) h b r9.2.1 r9.2.2.1 r9.2.2.2 = sj_lyT S h b r9 from rfl]
  refine sj_if_eq C 22 12 rfl rfl dX7_lay_9 (fun c_9 => ?_) (fun c_9 => ?_)
  · refine sj_aload_n C 23 rfl dX7_lay_22 rfl rfl ?_
    refine sj_iconstv C (1) 24 rfl dX7_lay_23 rfl ?_
    refine sj_callVd C 27 rfl dX7_lay_24 cv_X7_46 rfl (ct_X7_fails _ (S := sj_lyT S h b r9) (sj_tS_mm hmz r9.2.1 r9.2.2.1 r9.2.2.2) 1) rfl rfl rfl ⟨_, _, kd_h, rfl, rfl, by decide⟩ ⟨rfl, rfl⟩ ?_
    refine sj_iret C hR rfl rfl dX7_lay_27 ?_
    exact ⟨rfl, rfl⟩
  · refine sj_iload_n C 13 rfl dX7_lay_12 rfl rfl ?_
    refine sj_iconstv C (0) 14 rfl dX7_lay_13 rfl ?_
    refine sj_bipush C (99) 16 rfl dX7_lay_14 (by decide) ?_
    refine sj_callSd C 19 rfl dX7_lay_16 cv_X7_35 rfl (ct_X7_within _ _ _ _ _) rfl rfl rfl ⟨rfl, rfl⟩ ?_
    refine sj_if_ne C 28 22 rfl rfl dX7_lay_19 (fun c_19 => ?_) (fun c_19 => ?_)
    · exact absurd hb (fun h8 => h8.elim (fun h7 => c_9 (by rw [decide_eq_false h7]; rfl)) (fun h7 => c_19 (sj_bi0.mpr h7)))
    · refine sj_aload_n C 23 rfl dX7_lay_22 rfl rfl ?_
      refine sj_iconstv C (1) 24 rfl dX7_lay_23 rfl ?_
      refine sj_callVd C 27 rfl dX7_lay_24 cv_X7_46 rfl (ct_X7_fails _ (S := sj_lyT S h b r9) (sj_tS_mm hmz r9.2.1 r9.2.2.1 r9.2.2.2) 1) rfl rfl rfl ⟨_, _, kd_h, rfl, rfl, by decide⟩ ⟨rfl, rfl⟩ ?_
      refine sj_iret C hR rfl rfl dX7_lay_27 ?_
      exact ⟨rfl, rfl⟩
set_option maxRecDepth 100000 in
set_option maxHeartbeats 2500000 in
theorem ct_X7_lay_2 (l : Launch) {S : sj_St} {h : Nat} {b : Nat → Nat} {m : Nat → Int32} (hm : sj_mm S h b m) {n p0 : Nat} {B : Nat → Int32} (hps : sj_ps S h b n B p0) (r9 : Int32 × Nat × Nat × (Nat → Int32)) (hrd : sj_sht B n (sj_ia (sj_wFi S h 0 0) (b 13)) = r9) (age : Int32) (hr : r9.1 = -1) (ht : sj_wi age 0 99 = true) (h9 : m 9 = 8) : sj_Ctr l mX7_lay [.ref h, .int age] S (sj_eq (some (.int 0)) (sj_wFi (sj_lyT S h b r9) h 0 2)) := by
  refine sj_start ([some (.ref h), some (.int age), none, none]) (by decide +kernel) rfl rfl (fun X hX C hR => ?_)
  subst hX
  have hm0 := hm
  obtain ⟨hm', em⟩ := hm0
  subst em
  obtain ⟨kd_h, ⟨rf_h_1, kd_a1, il_a1⟩, ⟨rf_h_2, kd_a2, il_a2⟩, ⟨rf_h_3, kd_a3, il_a3⟩, ⟨rf_h_5, kd_a5, il_a5⟩, ⟨rf_h_7, kd_a7, il_a7⟩, ⟨rf_h_13, kd_a13, il_a13⟩, ⟨rf_h_15, kd_a15, il_a15⟩, hinj⟩ := hm'
  have hmz := sj_mm_f hm h 0 0
  obtain ⟨hn, hn60, hp0, hpn0, hB⟩ := id hps
  subst hB
  have e9T : sj_ia (sj_lyT S h b r9) (b 1) = (sj_ia S (b 1)) := ((sj_tS_mm hmz r9.2.1 r9.2.2.1 r9.2.2.2)).2
  refine sj_aload_n C 1 rfl dX7_lay_0 rfl rfl ?_
  refine sj_iconstv C (0) 2 rfl dX7_lay_1 rfl ?_
  refine sj_putI C 5 rfl fd_X7_31 dX7_lay_2 rfl rfl kd_h ?_
  refine sj_aload_n C 6 rfl dX7_lay_5 rfl rfl ?_
  refine sj_callVd C 9 rfl dX7_lay_6 cv_X7_132 rfl (ct_X7_isSheetText _ hmz (sj_ps_0 hps)) rfl rfl rfl ⟨_, _, kd_h, rfl, rfl, by decide⟩ ⟨rfl, rfl⟩ ?_
  rw [hrd]
  rw [show sj_tS (sj_wFi S h 0 0) h b r9.2.1 r9.2.2.1 r9.2.2.2 = sj_lyT S h b r9 from rfl]
  refine sj_if_eq C 22 12 rfl rfl dX7_lay_9 (fun c_9 => ?_) (fun c_9 => ?_)
  · exact absurd c_9 (by rw [decide_eq_true hr]; decide)
  · refine sj_iload_n C 13 rfl dX7_lay_12 rfl rfl ?_
    refine sj_iconstv C (0) 14 rfl dX7_lay_13 rfl ?_
    refine sj_bipush C (99) 16 rfl dX7_lay_14 (by decide) ?_
    refine sj_callSd C 19 rfl dX7_lay_16 cv_X7_35 rfl (ct_X7_within _ _ _ _ _) rfl rfl rfl ⟨rfl, rfl⟩ ?_
    refine sj_if_ne C 28 22 rfl rfl dX7_lay_19 (fun c_19 => ?_) (fun c_19 => ?_)
    · refine sj_aload_n C 29 rfl dX7_lay_28 rfl rfl ?_
      refine sj_getr C 32 rfl fd_X7_7 dX7_lay_29 kd_h rf_h_1 ?_
      refine sj_bipush C (9) 34 rfl dX7_lay_32 (by decide) ?_
      refine sj_iald C 35 rfl dX7_lay_34 kd_a1 (by show vp_in (nI 9) (sj_il S (b 1)); rw [il_a1]; exact vp_in_nI (by omega) (by omega)) ?_
      rw [show Int32.toNatClampNeg (9) = 9 from rfl, e9T]
      refine sj_bipush C (8) 37 rfl dX7_lay_35 (by decide) ?_
      refine sj_icmp_ne C 46 40 rfl rfl dX7_lay_37 (fun c_37 => ?_) (fun c_37 => ?_)
      · exact absurd h9 c_37
      · refine sj_aload_n C 41 rfl dX7_lay_40 rfl rfl ?_
        refine sj_iconstv C (2) 42 rfl dX7_lay_41 rfl ?_
        refine sj_callVd C 45 rfl dX7_lay_42 cv_X7_46 rfl (ct_X7_fails _ (S := sj_lyT S h b r9) (sj_tS_mm hmz r9.2.1 r9.2.2.1 r9.2.2.2) 2) rfl rfl rfl ⟨_, _, kd_h, rfl, rfl, by decide⟩ ⟨rfl, rfl⟩ ?_
        refine sj_iret C hR rfl rfl dX7_lay_45 ?_
        exact ⟨rfl, rfl⟩
    · exact absurd c_19 (by rw [ht]; decide)
set_option maxRecDepth 100000 in
set_option maxHeartbeats 2500000 in
theorem ct_X7_lay_0 (l : Launch) {S : sj_St} {h : Nat} {b : Nat → Nat} {m : Nat → Int32} (hm : sj_mm S h b m) {n p0 : Nat} {B : Nat → Int32} (hps : sj_ps S h b n B p0) (r9 : Int32 × Nat × Nat × (Nat → Int32)) (hrd : sj_sht B n (sj_ia (sj_wFi S h 0 0) (b 13)) = r9) (age : Int32) (hr : r9.1 = -1) (ht : sj_wi age 0 99 = true) (ns : Nat) (h9 : m 9 = nI ns) (hns : ns < 8) (q : Nat) (hq : q ≤ 6) (hq4 : sj_fi S h 4 = nI q) : sj_Ctr l mX7_lay [.ref h, .int age] S (sj_eq (some (.int (nI ns))) (sj_wFi (sj_sIa (sj_lyU S h b q m r9) (b 1) (sj_lay m ns age r9.2.2.1 r9.2.2.2)) h 8 0)) := by
  refine sj_start ([some (.ref h), some (.int age), none, none]) (by decide +kernel) rfl rfl (fun X hX C hR => ?_)
  subst hX
  have hm0 := hm
  obtain ⟨hm', em⟩ := hm0
  subst em
  obtain ⟨kd_h, ⟨rf_h_1, kd_a1, il_a1⟩, ⟨rf_h_2, kd_a2, il_a2⟩, ⟨rf_h_3, kd_a3, il_a3⟩, ⟨rf_h_5, kd_a5, il_a5⟩, ⟨rf_h_7, kd_a7, il_a7⟩, ⟨rf_h_13, kd_a13, il_a13⟩, ⟨rf_h_15, kd_a15, il_a15⟩, hinj⟩ := hm'
  have hmz := sj_mm_f hm h 0 0
  obtain ⟨hn, hn60, hp0, hpn0, hB⟩ := id hps
  subst hB
  have e9T : sj_ia (sj_lyT S h b r9) (b 1) = (sj_ia S (b 1)) := ((sj_tS_mm hmz r9.2.1 r9.2.2.1 r9.2.2.2)).2
  have hk8 : r9.2.2.1 ≤ 8 := by rw [← hrd]; exact sj_shx_k8 _ _ 8 0 0 _ (by omega)
  have hU : sj_ia (sj_lyU S h b q (sj_ia S (b 1)) r9) (b 1) = (sj_ia S (b 1)) := (sj_lyU_mm hm q r9).2
  have eT4 : sj_fi (sj_lyT S h b r9) h 4 = nI q := (sj_tS_o _ h b _ _ _ (by omega) (by omega)).trans ((sj_fi_wFi_k S h _ (by omega)).trans hq4)
  have eU14 : sj_fi (sj_lyU S h b q (sj_ia S (b 1)) r9) h 14 = nI r9.2.2.1 := (sj_fi_wFi_k _ h _ (by omega)).trans (sj_tS_14 _ h b _ _ _)
  have eU13 : sj_ia (sj_lyU S h b q (sj_ia S (b 1)) r9) (b 13) = r9.2.2.2 := (sj_ia_sIa_ne _ _ (sj_mo_ne hm.1 (i := 13) (j := 3) (by omega) (by omega) (by omega))).trans (sj_tS_13 _ h b _ _ _)
  have cut_87 : ∀ S', S' = (sj_sIa (sj_lyU S h b q (sj_ia S (b 1)) r9) (b 1) (sj_ly2 (sj_ia S (b 1)) ns age r9.2.2.1 r9.2.2.2 0)) → sj_G X S' 0 0 [some (.ref h), some (.int age), some (.int (nI (98 + 42 * ns))), some (.int (nI 0))] 87 [] := by
    refine sj_down (fun k => ∀ S', S' = (sj_sIa (sj_lyU S h b q (sj_ia S (b 1)) r9) (b 1) (sj_ly2 (sj_ia S (b 1)) ns age r9.2.2.1 r9.2.2.2 k)) → sj_G X S' 0 0 [some (.ref h), some (.int age), some (.int (nI (98 + 42 * ns))), some (.int (nI k))] 87 []) 40 (fun k hk ih => ?_)
    intro S' hS'
    subst hS'
    have e14 : sj_fi (sj_sIa (sj_lyU S h b q (sj_ia S (b 1)) r9) (b 1) (sj_ly2 (sj_ia S (b 1)) ns age r9.2.2.1 r9.2.2.2 k)) h 14 = nI r9.2.2.1 := eU14
    have e13 : sj_ia (sj_sIa (sj_lyU S h b q (sj_ia S (b 1)) r9) (b 1) (sj_ly2 (sj_ia S (b 1)) ns age r9.2.2.1 r9.2.2.2 k)) (b 13) = r9.2.2.2 := (sj_ia_sIa_ne _ _ (sj_mo_ne hm.1 (i := 13) (j := 1) (by omega) (by omega) (by omega))).trans eU13
    have e9 : sj_ia (sj_sIa (sj_lyU S h b q (sj_ia S (b 1)) r9) (b 1) (sj_ly2 (sj_ia S (b 1)) ns age r9.2.2.1 r9.2.2.2 k)) (b 1) 9 = nI ns := (congrFun (sj_ia_sIa _ _ _) 9).trans ((sj_ly2_9 _ _ _ _ _ _).trans h9)
    refine sj_iload_n C 88 rfl dX7_lay_87 rfl rfl ?_
    refine sj_bipush C (40) 90 rfl dX7_lay_88 (by decide) ?_
    refine sj_icmp_ge C 129 93 rfl rfl dX7_lay_90 (fun c_90 => ?_) (fun c_90 => ?_)
    · have hkn : k = 40 := by
        have h8 : ¬ k < 40 := fun h7 => nI_ge (b := 40) h7 (by omega) c_90
        omega
      subst hkn
      refine sj_aload_n C 130 rfl dX7_lay_129 rfl rfl ?_
      refine sj_getr C 133 rfl fd_X7_7 dX7_lay_130 kd_h rf_h_1 ?_
      refine sj_bipush C (9) 135 rfl dX7_lay_133 (by decide) ?_
      refine sj_dup2 C 136 rfl dX7_lay_135 rfl rfl ?_
      refine sj_iald C 137 rfl dX7_lay_136 kd_a1 (by show vp_in (nI 9) (sj_il S (b 1)); rw [il_a1]; exact vp_in_nI (by omega) (by omega)) ?_
      rw [show Int32.toNatClampNeg (9) = 9 from rfl, e9]
      refine sj_iconstv C (1) 138 rfl dX7_lay_137 rfl ?_
      refine sj_iadd C 139 rfl dX7_lay_138 ?_
      rw [nI_1]
      refine sj_iast C 140 rfl dX7_lay_139 kd_a1 (by show vp_in (nI 9) (sj_il S (b 1)); rw [il_a1]; exact vp_in_nI (by omega) (by omega)) ?_
      rw [sj_wIa_sIa]
      refine sj_aload_n C 141 rfl dX7_lay_140 rfl rfl ?_
      refine sj_iconstv C (0) 142 rfl dX7_lay_141 rfl ?_
      refine sj_putI C 145 rfl fd_X7_139 dX7_lay_142 rfl rfl kd_h ?_
      refine sj_aload_n C 146 rfl dX7_lay_145 rfl rfl ?_
      refine sj_getr C 149 rfl fd_X7_7 dX7_lay_146 kd_h rf_h_1 ?_
      refine sj_bipush C (9) 151 rfl dX7_lay_149 (by decide) ?_
      refine sj_iald C 152 rfl dX7_lay_151 kd_a1 (by show vp_in (nI 9) (sj_il S (b 1)); rw [il_a1]; exact vp_in_nI (by omega) (by omega)) ?_
      rw [show Int32.toNatClampNeg (9) = 9 from rfl]
      refine sj_iconstv C (1) 153 rfl dX7_lay_152 rfl ?_
      refine sj_isub C 154 rfl dX7_lay_153 ?_
      refine sj_iret C hR rfl rfl dX7_lay_154 ?_
      refine ⟨congrArg (fun z => some (Value.int z)) ?_, rfl⟩
      rw [show sj_ia (sj_wFi (sj_sIa (sj_lyU S h b q (sj_ia S (b 1)) r9) (b 1) (upd (sj_ly2 (sj_ia S (b 1)) ns age r9.2.2.1 r9.2.2.2 40) 9 (nI (ns + 1)))) h 8 0) (b 1) 9 = nI (ns + 1) from (congrFun (sj_ia_sIa _ _ _) 9).trans (sj_upd_self _ _ _)]
      exact nI_pred ns
    · have hlt : k < 40 := Nat.not_le.mp fun h8 => c_90 (nI_le (a := 40) h8 (by omega))
      refine sj_aload_n C 94 rfl dX7_lay_93 rfl rfl ?_
      refine sj_getr C 97 rfl fd_X7_7 dX7_lay_94 kd_h rf_h_1 ?_
      refine sj_iload_n C 98 rfl dX7_lay_97 rfl rfl ?_
      refine sj_iconstv C (2) 99 rfl dX7_lay_98 rfl ?_
      refine sj_iadd C 100 rfl dX7_lay_99 ?_
      refine sj_iload_n C 101 rfl dX7_lay_100 rfl rfl ?_
      refine sj_iadd C 102 rfl dX7_lay_101 ?_
      rw [show nI (98 + 42 * ns) + 2 + nI k = nI (98 + 42 * ns + 2 + k) from by rw [show nI (98 + 42 * ns) + 2 = nI (98 + 42 * ns + 2) from nI_add _ 2, nI_add]]
      refine sj_iload_n C 103 rfl dX7_lay_102 rfl rfl ?_
      refine sj_iconstv C (5) 104 rfl dX7_lay_103 rfl ?_
      refine sj_aload_n C 105 rfl dX7_lay_104 rfl rfl ?_
      refine sj_getI C 108 rfl fd_X7_136 dX7_lay_105 kd_h ?_
      refine sj_imul C 109 rfl dX7_lay_108 ?_
      rw [e14, show (5 : Int32) * nI r9.2.2.1 = nI (5 * r9.2.2.1) from sj_nmul 5 _]
      refine sj_icmp_ge C 121 112 rfl rfl dX7_lay_109 (fun c_109 => ?_) (fun c_109 => ?_)
      · refine sj_iconstv C (0) 122 rfl dX7_lay_121 rfl ?_
        refine sj_iast C 123 rfl dX7_lay_122 kd_a1 (by show vp_in (nI (98 + 42 * ns + 2 + k)) (sj_il S (b 1)); rw [il_a1]; exact vp_in_nI (by omega) (by omega)) ?_
        refine sj_iinc_3 C 126 rfl dX7_lay_123 rfl rfl ?_
        refine sj_goto C 87 rfl dX7_lay_126 ?_
        rw [sj_n1]
        refine ih hlt _ ?_
        rw [sj_wIa_sIa, nI_clamp (by omega)]
        have ev : sj_lyf r9.2.2.1 r9.2.2.2 k = 0 := if_neg (fun h8 => nI_ge h8 (by omega) c_109)
        have e8 := sj_cpo_s (98 + 42 * ns + 2) k (sj_lyf r9.2.2.1 r9.2.2.2) (sj_ly1 (sj_ia S (b 1)) ns age r9.2.2.1)
        rw [ev] at e8
        exact congrArg (sj_sIa (sj_lyU S h b q (sj_ia S (b 1)) r9) (b 1)) e8
      · refine sj_aload_n C 113 rfl dX7_lay_112 rfl rfl ?_
        refine sj_getr C 116 rfl fd_X7_25 dX7_lay_113 kd_h rf_h_13 ?_
        refine sj_iload_n C 117 rfl dX7_lay_116 rfl rfl ?_
        refine sj_iald C 118 rfl dX7_lay_117 kd_a13 (by show vp_in (nI k) (sj_il S (b 13)); rw [il_a13]; exact vp_in_nI (by omega) (by omega)) ?_
        rw [e13, nI_clamp (by omega)]
        refine sj_goto C 122 rfl dX7_lay_118 ?_
        refine sj_iast C 123 rfl dX7_lay_122 kd_a1 (by show vp_in (nI (98 + 42 * ns + 2 + k)) (sj_il S (b 1)); rw [il_a1]; exact vp_in_nI (by omega) (by omega)) ?_
        refine sj_iinc_3 C 126 rfl dX7_lay_123 rfl rfl ?_
        refine sj_goto C 87 rfl dX7_lay_126 ?_
        rw [sj_n1]
        refine ih hlt _ ?_
        rw [sj_wIa_sIa, nI_clamp (by omega)]
        have ev : sj_lyf r9.2.2.1 r9.2.2.2 k = r9.2.2.2 k := if_pos ((nI_ltI (by omega) (by omega)).mp (sj_nle.mp c_109))
        have e8 := sj_cpo_s (98 + 42 * ns + 2) k (sj_lyf r9.2.2.1 r9.2.2.2) (sj_ly1 (sj_ia S (b 1)) ns age r9.2.2.1)
        rw [ev] at e8
        exact congrArg (sj_sIa (sj_lyU S h b q (sj_ia S (b 1)) r9) (b 1)) e8
  refine sj_aload_n C 1 rfl dX7_lay_0 rfl rfl ?_
  refine sj_iconstv C (0) 2 rfl dX7_lay_1 rfl ?_
  refine sj_putI C 5 rfl fd_X7_31 dX7_lay_2 rfl rfl kd_h ?_
  refine sj_aload_n C 6 rfl dX7_lay_5 rfl rfl ?_
  refine sj_callVd C 9 rfl dX7_lay_6 cv_X7_132 rfl (ct_X7_isSheetText _ hmz (sj_ps_0 hps)) rfl rfl rfl ⟨_, _, kd_h, rfl, rfl, by decide⟩ ⟨rfl, rfl⟩ ?_
  rw [hrd]
  rw [show sj_tS (sj_wFi S h 0 0) h b r9.2.1 r9.2.2.1 r9.2.2.2 = sj_lyT S h b r9 from rfl]
  refine sj_if_eq C 22 12 rfl rfl dX7_lay_9 (fun c_9 => ?_) (fun c_9 => ?_)
  · exact absurd c_9 (by rw [decide_eq_true hr]; decide)
  · refine sj_iload_n C 13 rfl dX7_lay_12 rfl rfl ?_
    refine sj_iconstv C (0) 14 rfl dX7_lay_13 rfl ?_
    refine sj_bipush C (99) 16 rfl dX7_lay_14 (by decide) ?_
    refine sj_callSd C 19 rfl dX7_lay_16 cv_X7_35 rfl (ct_X7_within _ _ _ _ _) rfl rfl rfl ⟨rfl, rfl⟩ ?_
    refine sj_if_ne C 28 22 rfl rfl dX7_lay_19 (fun c_19 => ?_) (fun c_19 => ?_)
    · refine sj_aload_n C 29 rfl dX7_lay_28 rfl rfl ?_
      refine sj_getr C 32 rfl fd_X7_7 dX7_lay_29 kd_h rf_h_1 ?_
      refine sj_bipush C (9) 34 rfl dX7_lay_32 (by decide) ?_
      refine sj_iald C 35 rfl dX7_lay_34 kd_a1 (by show vp_in (nI 9) (sj_il S (b 1)); rw [il_a1]; exact vp_in_nI (by omega) (by omega)) ?_
      rw [show Int32.toNatClampNeg (9) = 9 from rfl, e9T, h9]
      refine sj_bipush C (8) 37 rfl dX7_lay_35 (by decide) ?_
      refine sj_icmp_ne C 46 40 rfl rfl dX7_lay_37 (fun c_37 => ?_) (fun c_37 => ?_)
      · refine sj_aload_n C 47 rfl dX7_lay_46 rfl rfl ?_
        refine sj_callVv C 50 rfl dX7_lay_47 cv_X7_54 rfl (ct_X7_save _ (S := sj_lyT S h b r9) (sj_tS_mm hmz r9.2.1 r9.2.2.1 r9.2.2.2) q hq eT4) rfl rfl rfl ⟨_, _, kd_h, rfl, rfl, by decide⟩ ⟨rfl, rfl⟩ ?_
        rw [show sj_wFi (sj_sIa (sj_lyT S h b r9) (b 3) (sj_sv q (sj_ia S (b 1)) (sj_ia (sj_lyT S h b r9) (b 3)))) h 4 (nI (sj_qn q + 1)) = (sj_lyU S h b q (sj_ia S (b 1)) r9) from rfl]
        refine sj_bipush C (98) 52 rfl dX7_lay_50 (by decide) ?_
        refine sj_bipush C (42) 54 rfl dX7_lay_52 (by decide) ?_
        refine sj_aload_n C 55 rfl dX7_lay_54 rfl rfl ?_
        refine sj_getr C 58 rfl fd_X7_7 dX7_lay_55 kd_h rf_h_1 ?_
        refine sj_bipush C (9) 60 rfl dX7_lay_58 (by decide) ?_
        refine sj_iald C 61 rfl dX7_lay_60 kd_a1 (by show vp_in (nI 9) (sj_il S (b 1)); rw [il_a1]; exact vp_in_nI (by omega) (by omega)) ?_
        rw [show Int32.toNatClampNeg (9) = 9 from rfl, hU, h9]
        refine sj_imul C 62 rfl dX7_lay_61 ?_
        refine sj_iadd C 63 rfl dX7_lay_62 ?_
        rw [sj_i98y]
        refine sj_istore_n_2 C 64 rfl dX7_lay_63 rfl rfl ?_
        refine sj_aload_n C 65 rfl dX7_lay_64 rfl rfl ?_
        refine sj_getr C 68 rfl fd_X7_7 dX7_lay_65 kd_h rf_h_1 ?_
        refine sj_iload_n C 69 rfl dX7_lay_68 rfl rfl ?_
        refine sj_iconstv C (0) 70 rfl dX7_lay_69 rfl ?_
        refine sj_iadd C 71 rfl dX7_lay_70 ?_
        rw [Int32.add_zero]
        refine sj_iload_n C 72 rfl dX7_lay_71 rfl rfl ?_
        refine sj_iast C 73 rfl dX7_lay_72 kd_a1 (by show vp_in (nI (98 + 42 * ns)) (sj_il S (b 1)); rw [il_a1]; exact vp_in_nI (by omega) (by omega)) ?_
        refine sj_aload_n C 74 rfl dX7_lay_73 rfl rfl ?_
        refine sj_getr C 77 rfl fd_X7_7 dX7_lay_74 kd_h rf_h_1 ?_
        refine sj_iload_n C 78 rfl dX7_lay_77 rfl rfl ?_
        refine sj_iconstv C (1) 79 rfl dX7_lay_78 rfl ?_
        refine sj_iadd C 80 rfl dX7_lay_79 ?_
        rw [show nI (98 + 42 * ns) + 1 = nI (98 + 42 * ns + 1) from nI_1 _]
        refine sj_aload_n C 81 rfl dX7_lay_80 rfl rfl ?_
        refine sj_getI C 84 rfl fd_X7_136 dX7_lay_81 kd_h ?_
        rw [show sj_fi (sj_wIa (sj_lyU S h b q (sj_ia S (b 1)) r9) (b 1) (nI (98 + 42 * ns)).toNatClampNeg age) h 14 = nI r9.2.2.1 from eU14]
        refine sj_iast C 85 rfl dX7_lay_84 kd_a1 (by show vp_in (nI (98 + 42 * ns + 1)) (sj_il S (b 1)); rw [il_a1]; exact vp_in_nI (by omega) (by omega)) ?_
        refine sj_iconstv C (0) 86 rfl dX7_lay_85 rfl ?_
        refine sj_istore_n_3 C 87 rfl dX7_lay_86 rfl rfl ?_
        refine cut_87 _ ?_
        rw [sj_wIa_eq, sj_wIa_eq, sj_sIa_sIa, sj_ia_sIa, hU, nI_clamp (by omega), nI_clamp (by omega)]
        unfold sj_ly2
        rw [sj_cpo_0]
        rfl
      · exact absurd ((nI_eq (b := 8) (by omega) (by omega)).mp c_37) (by omega)
    · exact absurd c_19 (by rw [ht]; decide)
