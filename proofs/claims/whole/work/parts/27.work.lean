/-! THE REFERENCE: works are done -/
/-- parts from p on: the state, how many were done, why not the next -/
def sj_wkL (B : Nat → Int32) (n : Nat) : Nat → (Nat → Int32) → Nat → Int32 → Int32 → Nat → (Nat → Int32) × Nat × Int32
  | 0, m, _, _, _, d => (m, d, 0)
  | j + 1, m, p, f1, f2, d =>
    if n ≤ p then (m, d, 0)
    else if (sj_prt B n p).1 = false then (m, d, -1)
    else if sj_wnp m (sj_prt B n p).2.2.1 ((sj_prt B n p).2.2.2.1.getD f1) ((sj_prt B n p).2.2.2.2.getD f2) = 0 then sj_wkL B n j (sj_dpt m (sj_prt B n p).2.2.1 ((sj_prt B n p).2.2.2.1.getD f1) ((sj_prt B n p).2.2.2.2.getD f2)).1 ((sj_prt B n p).2.1 + 1) (sj_dpt m (sj_prt B n p).2.2.1 ((sj_prt B n p).2.2.2.1.getD f1) ((sj_prt B n p).2.2.2.2.getD f2)).2 ((sj_prt B n p).2.2.2.2.getD f2) (d + 1)
    else (m, d, sj_wnp m (sj_prt B n p).2.2.1 ((sj_prt B n p).2.2.2.1.getD f1) ((sj_prt B n p).2.2.2.2.getD f2))
theorem sj_wkL_1 {B : Nat → Int32} {n j : Nat} {m : Nat → Int32} {p : Nat} {f1 f2 : Int32} {d : Nat} (h1 : n ≤ p) : sj_wkL B n (j + 1) m p f1 f2 d = (m, d, 0) := if_pos h1
theorem sj_wkL_2 {B : Nat → Int32} {n j : Nat} {m : Nat → Int32} {p : Nat} {f1 f2 : Int32} {d : Nat} (h1 : ¬ n ≤ p) (h2 : (sj_prt B n p).1 = false) : sj_wkL B n (j + 1) m p f1 f2 d = (m, d, -1) := (if_neg h1).trans (if_pos h2)
theorem sj_wkL_3 {B : Nat → Int32} {n j : Nat} {m : Nat → Int32} {p : Nat} {f1 f2 : Int32} {d : Nat} (h1 : ¬ n ≤ p) (h2 : ¬ (sj_prt B n p).1 = false) (h3 : sj_wnp m (sj_prt B n p).2.2.1 ((sj_prt B n p).2.2.2.1.getD f1) ((sj_prt B n p).2.2.2.2.getD f2) = 0) : sj_wkL B n (j + 1) m p f1 f2 d = sj_wkL B n j (sj_dpt m (sj_prt B n p).2.2.1 ((sj_prt B n p).2.2.2.1.getD f1) ((sj_prt B n p).2.2.2.2.getD f2)).1 ((sj_prt B n p).2.1 + 1) (sj_dpt m (sj_prt B n p).2.2.1 ((sj_prt B n p).2.2.2.1.getD f1) ((sj_prt B n p).2.2.2.2.getD f2)).2 ((sj_prt B n p).2.2.2.2.getD f2) (d + 1) := (if_neg h1).trans ((if_neg h2).trans (if_pos h3))
theorem sj_wkL_4 {B : Nat → Int32} {n j : Nat} {m : Nat → Int32} {p : Nat} {f1 f2 : Int32} {d : Nat} (h1 : ¬ n ≤ p) (h2 : ¬ (sj_prt B n p).1 = false) (h3 : ¬ sj_wnp m (sj_prt B n p).2.2.1 ((sj_prt B n p).2.2.2.1.getD f1) ((sj_prt B n p).2.2.2.2.getD f2) = 0) : sj_wkL B n (j + 1) m p f1 f2 d = (m, d, sj_wnp m (sj_prt B n p).2.2.1 ((sj_prt B n p).2.2.2.1.getD f1) ((sj_prt B n p).2.2.2.2.getD f2)) := (if_neg h1).trans ((if_neg h2).trans (if_neg h3))
theorem sj_rdn_in {B : Nat → Int32} {n : Nat} {a z : Int32} {p : Nat} (h0 : 0 ≤ a) (hz : 0 ≤ z) (hz2 : z ≤ 99) (h : ¬ (sj_rdn B n a z p).1 = -1) : a ≤ (sj_rdn B n a z p).1 ∧ (sj_rdn B n a z p).1 ≤ z := by
  unfold sj_rdn at h ⊢
  by_cases h1 : sj_wi (sj_nx B n p - 48) a 9 = false ∨ z < sj_nx B n p - 48
  · rw [if_pos h1] at h
    exact absurd rfl h
  · rw [if_neg h1]
    have h2 : sj_wi (sj_nx B n p - 48) a 9 = true := by
      cases h8 : sj_wi (sj_nx B n p - 48) a 9 with
      | true => rfl
      | false => exact absurd (Or.inl h8) h1
    obtain ⟨h3, h4⟩ := sj_wi_iff.mp h2
    have h5 : sj_nx B n p - 48 ≤ z := sj_nlt.mp (fun h8 => h1 (Or.inr h8))
    by_cases h6 : 0 < sj_nx B n p - 48 ∧ sj_wi (sj_nx B n (p + 1)) 48 57 = true ∧ 10 * (sj_nx B n p - 48) + sj_nx B n (p + 1) - 48 ≤ z
    · rw [if_pos h6]
      refine ⟨?_, h6.2.2⟩
      generalize sj_nx B n p - 48 = u at *
      obtain ⟨h7, h8⟩ := sj_wi_iff.mp h6.2.1
      generalize sj_nx B n (p + 1) = v at *
      have hu1 := sj_ltT.mp h6.1
      have hu2 := sj_leT.mp h4
      have hv1 := sj_leT.mp h7
      have hv2 := sj_leT.mp h8
      have ha := sj_leT.mp h3
      rw [show (0 : Int32).toInt = 0 from rfl] at hu1
      rw [show (9 : Int32).toInt = 9 from rfl] at hu2
      rw [show (48 : Int32).toInt = 48 from rfl] at hv1
      rw [show (57 : Int32).toInt = 57 from rfl] at hv2
      have e1 : (10 * u).toInt = 10 * u.toInt := sj_ti_mul (c := 10 * u.toInt) rfl (by omega) (by omega)
      have e2 : (10 * u + v).toInt = 10 * u.toInt + v.toInt := by
        rw [sj_ti_add (by omega) (by omega) (by omega) (by omega), e1]
      have e3 : (10 * u + v - 48).toInt = 10 * u.toInt + v.toInt - 48 := by
        rw [sj_ti_sub (by omega) (by omega) (by decide) (by decide), e2]
        rfl
      apply sj_leT.mpr
      show a.toInt ≤ (10 * u + v - 48).toInt
      rw [e3]
      omega
    · rw [if_neg h6]
      exact ⟨h3, h5⟩
theorem sj_prt_y {B : Nat → Int32} {n p : Nat} (h : (sj_prt B n p).1 = true) (hy : (sj_prt B n p).2.2.1 = 121) : ∃ v, (sj_prt B n p).2.2.2.1 = some v ∧ 0 ≤ v ∧ v ≤ 99 := by
  unfold sj_prt at h hy ⊢
  by_cases h1 : sj_nx B n p = 108 ∨ sj_nx B n p = 117 ∨ sj_nx B n p = 121 ∨ sj_nx B n p = 100
  · rw [if_pos h1] at h hy ⊢
    by_cases h2 : sj_nx B n p = 121
    · rw [if_pos h2] at h hy ⊢
      unfold sj_p2 at h ⊢
      rw [if_pos (Or.inr (Or.inl h2))] at h ⊢
      have h3 := sj_rdn_in (B := B) (n := n) (a := 1) (z := 99) (p := p + 1) (by decide) (by decide) (by decide) (of_decide_eq_true h)
      exact ⟨_, rfl, Int32.le_trans (by decide) h3.1, h3.2⟩
    · rw [if_neg h2] at hy
      exfalso
      unfold sj_p2 at hy
      by_cases h3 : (sj_rdn B n 0 7 (p + 1)).1 = -1 ∨ sj_nx B n p = 121 ∨ sj_nx B n p = 100
      · rw [if_pos h3] at hy
        exact h2 hy
      · rw [if_neg h3] at hy
        by_cases h4 : sj_nx B n (sj_rdn B n 0 7 (p + 1)).2 = 47
        · rw [if_pos h4] at hy
          exact h2 hy
        · rw [if_neg h4] at hy
          exact h2 hy
  · rw [if_neg h1] at h
    cases h
/-- where works stand while they are done -/
def sj_wL (V : sj_St) (h : Nat) (b : Nat → Nat) (m g : Nat → Int32) (p : Nat) (sg f1 f2 : Int32) : sj_St := sj_pS (sj_sIa (sj_sIa V (b 1) m) (b 15) g) h p sg f1 f2
theorem sj_wL_15 (V : sj_St) (h : Nat) (b : Nat → Nat) (m g g' : Nat → Int32) (p : Nat) (sg f1 f2 : Int32) : sj_sIa (sj_wL V h b m g p sg f1 f2) (b 15) g' = sj_wL V h b m g' p sg f1 f2 := by
  have e : sj_sIa (sj_wL V h b m g p sg f1 f2) (b 15) g' = sj_pS (sj_sIa (sj_sIa (sj_sIa V (b 1) m) (b 15) g) (b 15) g') h p sg f1 f2 := rfl
  rw [e, sj_sIa_sIa]
  rfl
theorem sj_wL_1 {V : sj_St} {h : Nat} {b : Nat → Nat} (hm : sj_mo V h b) (m m' g : Nat → Int32) (p : Nat) (sg f1 f2 : Int32) : sj_sIa (sj_wL V h b m g p sg f1 f2) (b 1) m' = sj_wL V h b m' g p sg f1 f2 := by
  have e : sj_sIa (sj_wL V h b m g p sg f1 f2) (b 1) m' = sj_pS (sj_sIa (sj_sIa (sj_sIa V (b 1) m) (b 15) g) (b 1) m') h p sg f1 f2 := rfl
  rw [e, sj_sIa_ne _ (sj_mo_ne hm (i := 15) (j := 1) (by omega) (by omega) (by omega)), sj_sIa_sIa]
  rfl
theorem sj_wL_mm {V : sj_St} {h : Nat} {b : Nat → Nat} (hm : sj_mo V h b) (m g : Nat → Int32) (p : Nat) (sg f1 f2 : Int32) : sj_mm (sj_wL V h b m g p sg f1 f2) h b m := ⟨hm, (sj_ia_sIa_ne (sj_sIa V (b 1) m) g (sj_mo_ne hm (i := 1) (j := 15) (by omega) (by omega) (by omega))).trans (sj_ia_sIa _ _ _)⟩
theorem sj_wL_mb {V : sj_St} {h : Nat} {b : Nat → Nat} (hm : sj_mo V h b) (m g : Nat → Int32) : sj_mm (sj_sIa (sj_sIa V (b 1) m) (b 15) g) h b m := ⟨hm, (sj_ia_sIa_ne (sj_sIa V (b 1) m) g (sj_mo_ne hm (i := 1) (j := 15) (by omega) (by omega) (by omega))).trans (sj_ia_sIa _ _ _)⟩
theorem sj_wL_pb {V : sj_St} {h : Nat} {b : Nat → Nat} {n p0 : Nat} {B : Nat → Int32} (hm : sj_mo V h b) (hps : sj_ps V h b n B p0) (m g : Nat → Int32) : sj_ps (sj_sIa (sj_sIa V (b 1) m) (b 15) g) h b n B p0 := ⟨hps.1, hps.2.1, hps.2.2.1, hps.2.2.2.1, (sj_ia_sIa_ne (sj_sIa V (b 1) m) g (sj_mo_ne hm (i := 7) (j := 15) (by omega) (by omega) (by omega))).trans ((sj_ia_sIa_ne V m (sj_mo_ne hm (i := 7) (j := 1) (by omega) (by omega) (by omega))).trans hps.2.2.2.2)⟩
theorem sj_wL_9 (V : sj_St) (h : Nat) (b : Nat → Nat) (m g : Nat → Int32) (p q : Nat) (sg f1 f2 : Int32) : sj_wFi (sj_wL V h b m g p sg f1 f2) h 9 (nI q) = sj_wL V h b m g q sg f1 f2 := sj_pS_w9 _ h p q sg f1 f2
theorem sj_wL_11 (V : sj_St) (h : Nat) (b : Nat → Nat) (m g : Nat → Int32) (p : Nat) (sg f1 f2 v : Int32) : sj_wFi (sj_wL V h b m g p sg f1 f2) h 11 v = sj_wL V h b m g p sg v f2 := sj_pS_w11 _ h p sg f1 f2 v
theorem sj_wL_do {V : sj_St} {h : Nat} {b : Nat → Nat} (hm : sj_mo V h b) (m g m' g' : Nat → Int32) (p : Nat) (sg f1 f2 v : Int32) : sj_wFi (sj_sIa (sj_sIa (sj_wL V h b m g p sg f1 f2) (b 1) m') (b 15) g') h 11 v = sj_wL V h b m' g' p sg v f2 := by
  rw [sj_wL_1 hm, sj_wL_15, sj_wL_11]
theorem sj_wL_0 {V : sj_St} {h : Nat} {b : Nat → Nat} {m : Nat → Int32} (hm : sj_mm V h b m) (h9 : sj_fi V h 9 = nI 0) : sj_wL V h b m (sj_ia V (b 15)) 0 (sj_fi V h 10) (sj_fi V h 11) (sj_fi V h 12) = V := by
  unfold sj_wL
  rw [← hm.2, sj_sIa_id, sj_sIa_id]
  exact sj_pS_id h9
/-- behind works: the state with the stop noted -/
def sj_wkE (r : (Nat → Int32) × Nat × Int32) : Nat → Int32 := upd (upd r.1 12 (if r.2.2 = 0 then -1 else nI r.2.1)) 13 (if r.2.2 = 0 then -1 else r.2.2)
def sj_wkV (S : sj_St) (h : Nat) (b : Nat → Nat) (q : Nat) (m : Nat → Int32) (r : Int32 × Nat × Int32 × Int32 × Int32) : sj_St := sj_wFi (sj_wFi (sj_sIa (sj_pW (sj_wFi S h 0 0) h r) (b 3) (sj_sv q m (sj_ia (sj_pW (sj_wFi S h 0 0) h r) (b 3)))) h 4 (nI (sj_qn q + 1))) h 9 0
def sj_wkR (V : sj_St) (h : Nat) (m B : Nat → Int32) (n : Nat) : (Nat → Int32) × Nat × Int32 := sj_wkL B n (n + 2) m 0 (sj_fi V h 11) (sj_fi V h 12) 0
theorem sj_pW_o (S : sj_St) (h : Nat) (r : Int32 × Nat × Int32 × Int32 × Int32) {j : Nat} (hj : j < 9 ∨ 12 < j) : sj_fi (sj_pW S h r) h j = sj_fi S h j := sj_pS_o S h _ _ _ _ hj
set_option maxRecDepth 100000 in
set_option maxHeartbeats 1600000 in
theorem ct_X7_work_1 (l : Launch) {S : sj_St} {h : Nat} {b : Nat → Nat} {m : Nat → Int32} (hm : sj_mm S h b m) {n p0 : Nat} {B : Nat → Int32} (hps : sj_ps S h b n B p0) (r9 : Int32 × Nat × Int32 × Int32 × Int32) (hrd : sj_wkt B n (sj_fi (sj_wFi S h 0 0) h 10) (sj_fi (sj_wFi S h 0 0) h 11) (sj_fi (sj_wFi S h 0 0) h 12) = r9) (hr : ¬ r9.1 = -1) : sj_Ctr l mX7_work [.ref h] S (sj_eq (some (.int 0)) (sj_wFi (sj_pW (sj_wFi S h 0 0) h r9) h 0 1)) := by
  refine sj_start ([some (.ref h), none, none]) (by decide +kernel) rfl rfl (fun X hX C hR => ?_)
  subst hX
  have hm0 := hm
  obtain ⟨hm', em⟩ := hm0
  subst em
  obtain ⟨kd_h, ⟨rf_h_1, kd_a1, il_a1⟩, ⟨rf_h_2, kd_a2, il_a2⟩, ⟨rf_h_3, kd_a3, il_a3⟩, ⟨rf_h_5, kd_a5, il_a5⟩, ⟨rf_h_7, kd_a7, il_a7⟩, ⟨rf_h_13, kd_a13, il_a13⟩, ⟨rf_h_15, kd_a15, il_a15⟩, hinj⟩ := hm'
  have hmz := sj_mm_f hm h 0 0
  obtain ⟨hn, hn60, hp0, hpn0, hB⟩ := id hps
  subst hB
  have hmT : sj_mm (sj_pW (sj_wFi S h 0 0) h r9) h b (sj_ia S (b 1)) := sj_pS_mm hmz _ _ _ _
  refine sj_aload_n C 1 rfl dX7_work_0 rfl rfl ?_
  refine sj_iconstv C (0) 2 rfl dX7_work_1 rfl ?_
  refine sj_putI C 5 rfl fd_X7_31 dX7_work_2 rfl rfl kd_h ?_
  refine sj_aload_n C 6 rfl dX7_work_5 rfl rfl ?_
  refine sj_callVd C 9 rfl dX7_work_6 cv_X7_191 rfl (ct_X7_findWorksError _ hmz (sj_ps_0 hps)) rfl rfl rfl ⟨_, _, kd_h, rfl, rfl, by decide⟩ ⟨rfl, rfl⟩ ?_
  rw [hrd]
  refine sj_iconstv C (-1) 10 rfl dX7_work_9 rfl ?_
  refine sj_icmp_eq C 19 13 rfl rfl dX7_work_10 (fun c_10 => ?_) (fun c_10 => ?_)
  · exact absurd c_10 hr
  · refine sj_aload_n C 14 rfl dX7_work_13 rfl rfl ?_
    refine sj_iconstv C (1) 15 rfl dX7_work_14 rfl ?_
    refine sj_callVd C 18 rfl dX7_work_15 cv_X7_46 rfl (ct_X7_fails _ (S := (sj_pW (sj_wFi S h 0 0) h r9)) hmT 1) rfl rfl rfl ⟨_, _, kd_h, rfl, rfl, by decide⟩ ⟨rfl, rfl⟩ ?_
    refine sj_iret C hR rfl rfl dX7_work_18 ?_
    exact ⟨rfl, rfl⟩
set_option maxRecDepth 100000 in
set_option maxHeartbeats 1600000 in
theorem ct_X7_work_0 (l : Launch) {S : sj_St} {h : Nat} {b : Nat → Nat} {m : Nat → Int32} (hm : sj_mm S h b m) (hI : sj_inv m) {n p0 : Nat} {B : Nat → Int32} (hps : sj_ps S h b n B p0) (r9 : Int32 × Nat × Int32 × Int32 × Int32) (hrd : sj_wkt B n (sj_fi (sj_wFi S h 0 0) h 10) (sj_fi (sj_wFi S h 0 0) h 11) (sj_fi (sj_wFi S h 0 0) h 12) = r9) (hr : r9.1 = -1) (q : Nat) (hq : q ≤ 6) (hq4 : sj_fi S h 4 = nI q) (V9 : sj_St) (hV : sj_wkV S h b q m r9 = V9) (R9 : (Nat → Int32) × Nat × Int32) (hR9 : sj_wkR V9 h m B n = R9) : sj_Ctr l mX7_work [.ref h] S (fun v T => v = some (.int (nI R9.2.1)) ∧ ∃ g p sg f1 f2, T = sj_wFi (sj_wL V9 h b (sj_wkE R9) g p sg f1 f2) h 8 0) := by
  refine sj_start ([some (.ref h), none, none]) (by decide +kernel) rfl rfl (fun X hX C hR => ?_)
  subst hX
  have hm0 := hm
  obtain ⟨hm', em⟩ := hm0
  subst em
  obtain ⟨kd_h, ⟨rf_h_1, kd_a1, il_a1⟩, ⟨rf_h_2, kd_a2, il_a2⟩, ⟨rf_h_3, kd_a3, il_a3⟩, ⟨rf_h_5, kd_a5, il_a5⟩, ⟨rf_h_7, kd_a7, il_a7⟩, ⟨rf_h_13, kd_a13, il_a13⟩, ⟨rf_h_15, kd_a15, il_a15⟩, hinj⟩ := hm'
  have hmz := sj_mm_f hm h 0 0
  obtain ⟨hn, hn60, hp0, hpn0, hB⟩ := id hps
  subst hB
  have hmT : sj_mm (sj_pW (sj_wFi S h 0 0) h r9) h b (sj_ia S (b 1)) := sj_pS_mm hmz _ _ _ _
  have eT4 : sj_fi (sj_pW (sj_wFi S h 0 0) h r9) h 4 = nI q := (sj_pW_o _ h _ (Or.inl (by omega))).trans ((sj_fi_wFi_k S h _ (by omega)).trans hq4)
  obtain ⟨hmV, hV9, hpsV⟩ : sj_mm V9 h b (sj_ia S (b 1)) ∧ sj_fi V9 h 9 = nI 0 ∧ sj_ps V9 h b n (sj_ia S (b 7)) 0 := by
    subst hV
    have hV9 : sj_fi (sj_wkV S h b q (sj_ia S (b 1)) r9) h 9 = nI 0 := sj_fi_wFi _ h 9 _
    have hT8 : sj_fi (sj_pW (sj_wFi S h 0 0) h r9) h 8 = nI n := (sj_pW_o (sj_wFi S h 0 0) h r9 (j := 8) (Or.inl (by omega))).trans ((sj_fi_wFi_k S h _ (by omega)).trans hn)
    have hV8 : sj_fi (sj_wkV S h b q (sj_ia S (b 1)) r9) h 8 = nI n := by
      unfold sj_wkV
      rw [sj_fi_wFi_k _ h _ (by omega), sj_fi_wFi_k _ h _ (by omega)]
      exact hT8
    have hV1 : ∀ i, i < 16 → ¬ i = 3 → sj_ia (sj_wkV S h b q (sj_ia S (b 1)) r9) (b i) = sj_ia S (b i) := fun i hi h3 => by
      unfold sj_wkV
      have e1 : sj_ia (sj_sIa (sj_pW (sj_wFi S h 0 0) h r9) (b 3) (sj_sv q (sj_ia S (b 1)) (sj_ia (sj_pW (sj_wFi S h 0 0) h r9) (b 3)))) (b i) = sj_ia (sj_pW (sj_wFi S h 0 0) h r9) (b i) := sj_ia_sIa_ne (sj_pW (sj_wFi S h 0 0) h r9) _ (sj_mo_ne hm.1 (i := i) (j := 3) hi (by omega) h3)
      exact e1
    exact ⟨⟨hm.1, hV1 1 (by omega) (by omega)⟩, hV9, hV8, hn60, hV9, Nat.zero_le _, hV1 7 (by omega) (by omega)⟩
  unfold sj_wkR at hR9
  have cut_87 : ∀ m' g p sg f1 f2 (d : Nat) (why : Int32), R9 = (m', d, why) → sj_G X (sj_wL V9 h b m' g p sg f1 f2) 0 0 [some (.ref h), some (.int (nI d)), some (.int why)] 87 [] := by
    intro m' g p sg f1 f2 d why hres
    obtain ⟨kd_h, ⟨rf_h_1, kd_a1, il_a1⟩, -⟩ := id hmV.1
    refine sj_aload_n C 88 rfl dX7_work_87 rfl rfl ?_
    refine sj_getr C 91 rfl fd_X7_7 dX7_work_88 kd_h rf_h_1 ?_
    refine sj_bipush C (12) 93 rfl dX7_work_91 (by decide) ?_
    refine sj_iload_n C 94 rfl dX7_work_93 rfl rfl ?_
    refine sj_if_ne C 101 97 rfl rfl dX7_work_94 (fun c_94 => ?_) (fun c_94 => ?_)
    · refine sj_iload_n C 102 rfl dX7_work_101 rfl rfl ?_
      refine sj_iast C 103 rfl dX7_work_102 kd_a1 (by show vp_in (nI 12) (sj_il V9 (b 1)); rw [il_a1]; exact vp_in_nI (by omega) (by omega)) ?_
      refine sj_aload_n C 104 rfl dX7_work_103 rfl rfl ?_
      refine sj_getr C 107 rfl fd_X7_7 dX7_work_104 kd_h rf_h_1 ?_
      refine sj_bipush C (13) 109 rfl dX7_work_107 (by decide) ?_
      refine sj_iload_n C 110 rfl dX7_work_109 rfl rfl ?_
      refine sj_if_ne C 117 113 rfl rfl dX7_work_110 (fun c_110 => ?_) (fun c_110 => ?_)
      · refine sj_iload_n C 118 rfl dX7_work_117 rfl rfl ?_
        refine sj_iast C 119 rfl dX7_work_118 kd_a1 (by show vp_in (nI 13) (sj_il V9 (b 1)); rw [il_a1]; exact vp_in_nI (by omega) (by omega)) ?_
        refine sj_aload_n C 120 rfl dX7_work_119 rfl rfl ?_
        refine sj_iconstv C (0) 121 rfl dX7_work_120 rfl ?_
        refine sj_putI C 124 rfl fd_X7_139 dX7_work_121 rfl rfl kd_h ?_
        refine sj_iload_n C 125 rfl dX7_work_124 rfl rfl ?_
        refine sj_iret C hR rfl rfl dX7_work_125 ?_
        rw [hres]
        refine ⟨rfl, g, p, sg, f1, f2, ?_⟩
        rw [show (12 : Int32).toNatClampNeg = 12 from rfl, show (13 : Int32).toNatClampNeg = 13 from rfl, sj_wIa_eq, sj_wIa_eq, sj_ia_sIa, sj_sIa_sIa, (sj_wL_mm hmV.1 m' g p sg f1 f2).2, sj_wL_1 hmV.1]
        unfold sj_wkE
        rw [if_neg c_94, if_neg c_94]
      · refine sj_iconstv C (-1) 114 rfl dX7_work_113 rfl ?_
        refine sj_goto C 118 rfl dX7_work_114 ?_
        refine sj_iast C 119 rfl dX7_work_118 kd_a1 (by show vp_in (nI 13) (sj_il V9 (b 1)); rw [il_a1]; exact vp_in_nI (by omega) (by omega)) ?_
        refine sj_aload_n C 120 rfl dX7_work_119 rfl rfl ?_
        refine sj_iconstv C (0) 121 rfl dX7_work_120 rfl ?_
        refine sj_putI C 124 rfl fd_X7_139 dX7_work_121 rfl rfl kd_h ?_
        refine sj_iload_n C 125 rfl dX7_work_124 rfl rfl ?_
        refine sj_iret C hR rfl rfl dX7_work_125 ?_
        rw [hres]
        refine ⟨rfl, g, p, sg, f1, f2, ?_⟩
        rw [show (12 : Int32).toNatClampNeg = 12 from rfl, show (13 : Int32).toNatClampNeg = 13 from rfl, sj_wIa_eq, sj_wIa_eq, sj_ia_sIa, sj_sIa_sIa, (sj_wL_mm hmV.1 m' g p sg f1 f2).2, sj_wL_1 hmV.1]
        unfold sj_wkE
        exact absurd c_110 c_94
    · refine sj_iconstv C (-1) 98 rfl dX7_work_97 rfl ?_
      refine sj_goto C 102 rfl dX7_work_98 ?_
      refine sj_iast C 103 rfl dX7_work_102 kd_a1 (by show vp_in (nI 12) (sj_il V9 (b 1)); rw [il_a1]; exact vp_in_nI (by omega) (by omega)) ?_
      refine sj_aload_n C 104 rfl dX7_work_103 rfl rfl ?_
      refine sj_getr C 107 rfl fd_X7_7 dX7_work_104 kd_h rf_h_1 ?_
      refine sj_bipush C (13) 109 rfl dX7_work_107 (by decide) ?_
      refine sj_iload_n C 110 rfl dX7_work_109 rfl rfl ?_
      refine sj_if_ne C 117 113 rfl rfl dX7_work_110 (fun c_110 => ?_) (fun c_110 => ?_)
      · refine sj_iload_n C 118 rfl dX7_work_117 rfl rfl ?_
        refine sj_iast C 119 rfl dX7_work_118 kd_a1 (by show vp_in (nI 13) (sj_il V9 (b 1)); rw [il_a1]; exact vp_in_nI (by omega) (by omega)) ?_
        refine sj_aload_n C 120 rfl dX7_work_119 rfl rfl ?_
        refine sj_iconstv C (0) 121 rfl dX7_work_120 rfl ?_
        refine sj_putI C 124 rfl fd_X7_139 dX7_work_121 rfl rfl kd_h ?_
        refine sj_iload_n C 125 rfl dX7_work_124 rfl rfl ?_
        refine sj_iret C hR rfl rfl dX7_work_125 ?_
        rw [hres]
        refine ⟨rfl, g, p, sg, f1, f2, ?_⟩
        rw [show (12 : Int32).toNatClampNeg = 12 from rfl, show (13 : Int32).toNatClampNeg = 13 from rfl, sj_wIa_eq, sj_wIa_eq, sj_ia_sIa, sj_sIa_sIa, (sj_wL_mm hmV.1 m' g p sg f1 f2).2, sj_wL_1 hmV.1]
        unfold sj_wkE
        exact absurd c_94 c_110
      · refine sj_iconstv C (-1) 114 rfl dX7_work_113 rfl ?_
        refine sj_goto C 118 rfl dX7_work_114 ?_
        refine sj_iast C 119 rfl dX7_work_118 kd_a1 (by show vp_in (nI 13) (sj_il V9 (b 1)); rw [il_a1]; exact vp_in_nI (by omega) (by omega)) ?_
        refine sj_aload_n C 120 rfl dX7_work_119 rfl rfl ?_
        refine sj_iconstv C (0) 121 rfl dX7_work_120 rfl ?_
        refine sj_putI C 124 rfl fd_X7_139 dX7_work_121 rfl rfl kd_h ?_
        refine sj_iload_n C 125 rfl dX7_work_124 rfl rfl ?_
        refine sj_iret C hR rfl rfl dX7_work_125 ?_
        rw [hres]
        refine ⟨rfl, g, p, sg, f1, f2, ?_⟩
        rw [show (12 : Int32).toNatClampNeg = 12 from rfl, show (13 : Int32).toNatClampNeg = 13 from rfl, sj_wIa_eq, sj_wIa_eq, sj_ia_sIa, sj_sIa_sIa, (sj_wL_mm hmV.1 m' g p sg f1 f2).2, sj_wL_1 hmV.1]
        unfold sj_wkE
        rw [if_pos c_94, if_pos c_94]
  have cut_32 : ∀ j, ∀ m' g p sg f1 f2 (d : Nat), sj_inv m' → p ≤ n + 1 → n + 1 - p < j → sj_wkL (sj_ia S (b 7)) n j m' p f1 f2 d = R9 → sj_G X (sj_wL V9 h b m' g p sg f1 f2) 0 0 [some (.ref h), some (.int (nI d)), some (.int 0)] 32 [] := by
    refine sj_strong _ (fun j ih => ?_)
    intro m' g p sg f1 f2 d hI' hp hj hres
    obtain ⟨j, rfl⟩ : ∃ i, j = i + 1 := ⟨j - 1, by omega⟩
    obtain ⟨kd_h, ⟨rf_h_1, kd_a1, il_a1⟩, -⟩ := id hmV.1
    refine sj_iload_n C 33 rfl dX7_work_32 rfl rfl ?_
    refine sj_if_ne C 87 36 rfl rfl dX7_work_33 (fun c_33 => ?_) (fun c_33 => ?_)
    · exact absurd rfl c_33
    · skip
      refine sj_aload_n C 37 rfl dX7_work_36 rfl rfl ?_
      refine sj_getI C 40 rfl fd_X7_161 dX7_work_37 kd_h ?_
      refine sj_aload_n C 41 rfl dX7_work_40 rfl rfl ?_
      refine sj_getI C 44 rfl fd_X7_139 dX7_work_41 kd_h ?_
      rw [show sj_fi (sj_wL V9 h b m' g p sg f1 f2) h 9 = nI p from sj_pS_9 _ h _ _ _ _, show sj_fi (sj_wL V9 h b m' g p sg f1 f2) h 8 = nI n from (sj_pS_o _ h _ _ _ _ (Or.inl (by omega))).trans hpsV.1]
      refine sj_icmp_ge C 87 47 rfl rfl dX7_work_44 (fun c_44 => ?_) (fun c_44 => ?_)
      · exact cut_87 _ _ _ _ _ _ _ _ (hres.symm.trans (sj_wkL_1 ((nI_leI (by omega) (by omega)).mp c_44)))
      · have hnp : ¬ n ≤ p := fun h8 => c_44 (nI_le h8 (by omega))
        have hple : p ≤ n := by omega
        have hle := sj_prt_le (B := (sj_ia S (b 7))) hple
        refine sj_aload_n C 48 rfl dX7_work_47 rfl rfl ?_
        refine sj_callVd C 51 rfl dX7_work_48 cv_X7_188 rfl (ct_X7_readsPart _ (sj_wL_mb hmV.1 m' g) (sj_wL_pb hmV.1 hpsV m' g) hple sg f1 f2) rfl rfl rfl ⟨_, _, kd_h, rfl, rfl, by decide⟩ ⟨rfl, rfl⟩ ?_
        rw [show sj_pR (sj_sIa (sj_sIa V9 (b 1) m') (b 15) g) h f1 f2 (sj_prt (sj_ia S (b 7)) n p) = (sj_wL V9 h b m' g (sj_prt (sj_ia S (b 7)) n p).2.1 (sj_prt (sj_ia S (b 7)) n p).2.2.1 ((sj_prt (sj_ia S (b 7)) n p).2.2.2.1.getD f1) ((sj_prt (sj_ia S (b 7)) n p).2.2.2.2.getD f2)) from rfl]
        refine sj_if_eq C 61 54 rfl rfl dX7_work_51 (fun c_51 => ?_) (fun c_51 => ?_)
        · refine sj_iconstv C (-1) 62 rfl dX7_work_61 rfl ?_
          refine sj_istore_n_2 C 63 rfl dX7_work_62 rfl rfl ?_
          refine sj_iload_n C 64 rfl dX7_work_63 rfl rfl ?_
          refine sj_if_ne C 74 67 rfl rfl dX7_work_64 (fun c_64 => ?_) (fun c_64 => ?_)
          · skip
            refine sj_aload_n C 75 rfl dX7_work_74 rfl rfl ?_
            refine sj_dup C 76 rfl dX7_work_75 rfl ?_
            refine sj_getI C 79 rfl fd_X7_161 dX7_work_76 kd_h ?_
            refine sj_iconstv C (1) 80 rfl dX7_work_79 rfl ?_
            rw [show ∀ m9 g9 sg9 a9 c9, sj_fi (sj_wL V9 h b m9 g9 (sj_prt (sj_ia S (b 7)) n p).2.1 sg9 a9 c9) h 9 = nI (sj_prt (sj_ia S (b 7)) n p).2.1 from fun m9 g9 sg9 a9 c9 => sj_pS_9 _ h _ _ _ _]
            refine sj_iadd C 81 rfl dX7_work_80 ?_
            rw [nI_1]
            refine sj_putI C 84 rfl fd_X7_161 dX7_work_81 rfl rfl kd_h ?_
            rw [sj_wL_9]
            refine sj_goto C 32 rfl dX7_work_84 ?_
            refine sj_iload_n C 33 rfl dX7_work_32 rfl rfl ?_
            refine sj_if_ne C 87 36 rfl rfl dX7_work_33 (fun c_33 => ?_) (fun c_33 => ?_)
            · exact cut_87 _ _ _ _ _ _ _ _ (hres.symm.trans (sj_wkL_2 hnp (sj_bi0.mp c_51)))
            · exact absurd c_33 c_64
          · exact absurd c_64 (by decide)
        · have hok : ¬ (sj_prt (sj_ia S (b 7)) n p).1 = false := fun h8 => c_51 (by rw [h8]; rfl)
          have hgo := hle.2.2 (sj_bin.mp c_51)
          refine sj_aload_n C 55 rfl dX7_work_54 rfl rfl ?_
          refine sj_callVp C 58 rfl dX7_work_55 cv_X7_194 rfl (ct_X7_whyNotPart _ (sj_wL_mm hmV.1 m' g _ _ _ _) hI') rfl rfl rfl ⟨_, _, kd_h, rfl, rfl, by decide⟩ ⟨rfl, rfl⟩ (fun v_55 S_55 hp_55 => ?_)
          obtain ⟨rfl, g_55, rfl⟩ := hp_55
          rw [sj_wL_15, show sj_fi (sj_wL V9 h b m' g (sj_prt (sj_ia S (b 7)) n p).2.1 (sj_prt (sj_ia S (b 7)) n p).2.2.1 ((sj_prt (sj_ia S (b 7)) n p).2.2.2.1.getD f1) ((sj_prt (sj_ia S (b 7)) n p).2.2.2.2.getD f2)) h 10 = (sj_prt (sj_ia S (b 7)) n p).2.2.1 from sj_pS_10 _ h _ _ _ _, show sj_fi (sj_wL V9 h b m' g (sj_prt (sj_ia S (b 7)) n p).2.1 (sj_prt (sj_ia S (b 7)) n p).2.2.1 ((sj_prt (sj_ia S (b 7)) n p).2.2.2.1.getD f1) ((sj_prt (sj_ia S (b 7)) n p).2.2.2.2.getD f2)) h 11 = ((sj_prt (sj_ia S (b 7)) n p).2.2.2.1.getD f1) from sj_pS_11 _ h _ _ _ _, show sj_fi (sj_wL V9 h b m' g (sj_prt (sj_ia S (b 7)) n p).2.1 (sj_prt (sj_ia S (b 7)) n p).2.2.1 ((sj_prt (sj_ia S (b 7)) n p).2.2.2.1.getD f1) ((sj_prt (sj_ia S (b 7)) n p).2.2.2.2.getD f2)) h 12 = ((sj_prt (sj_ia S (b 7)) n p).2.2.2.2.getD f2) from sj_pS_12 _ h _ _ _ _]
          refine sj_goto C 62 rfl dX7_work_58 ?_
          refine sj_istore_n_2 C 63 rfl dX7_work_62 rfl rfl ?_
          refine sj_iload_n C 64 rfl dX7_work_63 rfl rfl ?_
          refine sj_if_ne C 74 67 rfl rfl dX7_work_64 (fun c_64 => ?_) (fun c_64 => ?_)
          · skip
            refine sj_aload_n C 75 rfl dX7_work_74 rfl rfl ?_
            refine sj_dup C 76 rfl dX7_work_75 rfl ?_
            refine sj_getI C 79 rfl fd_X7_161 dX7_work_76 kd_h ?_
            refine sj_iconstv C (1) 80 rfl dX7_work_79 rfl ?_
            rw [show ∀ m9 g9 sg9 a9 c9, sj_fi (sj_wL V9 h b m9 g9 (sj_prt (sj_ia S (b 7)) n p).2.1 sg9 a9 c9) h 9 = nI (sj_prt (sj_ia S (b 7)) n p).2.1 from fun m9 g9 sg9 a9 c9 => sj_pS_9 _ h _ _ _ _]
            refine sj_iadd C 81 rfl dX7_work_80 ?_
            rw [nI_1]
            refine sj_putI C 84 rfl fd_X7_161 dX7_work_81 rfl rfl kd_h ?_
            rw [sj_wL_9]
            refine sj_goto C 32 rfl dX7_work_84 ?_
            refine sj_iload_n C 33 rfl dX7_work_32 rfl rfl ?_
            refine sj_if_ne C 87 36 rfl rfl dX7_work_33 (fun c_33 => ?_) (fun c_33 => ?_)
            · exact cut_87 _ _ _ _ _ _ _ _ (hres.symm.trans (sj_wkL_4 hnp hok c_64))
            · exact absurd c_33 c_64
          · skip
            refine sj_aload_n C 68 rfl dX7_work_67 rfl rfl ?_
            have hw9 : sj_wnp m' (sj_fi (sj_wL V9 h b m' g_55 (sj_prt (sj_ia S (b 7)) n p).2.1 (sj_prt (sj_ia S (b 7)) n p).2.2.1 ((sj_prt (sj_ia S (b 7)) n p).2.2.2.1.getD f1) ((sj_prt (sj_ia S (b 7)) n p).2.2.2.2.getD f2)) h 10) (sj_fi (sj_wL V9 h b m' g_55 (sj_prt (sj_ia S (b 7)) n p).2.1 (sj_prt (sj_ia S (b 7)) n p).2.2.1 ((sj_prt (sj_ia S (b 7)) n p).2.2.2.1.getD f1) ((sj_prt (sj_ia S (b 7)) n p).2.2.2.2.getD f2)) h 11) (sj_fi (sj_wL V9 h b m' g_55 (sj_prt (sj_ia S (b 7)) n p).2.1 (sj_prt (sj_ia S (b 7)) n p).2.2.1 ((sj_prt (sj_ia S (b 7)) n p).2.2.2.1.getD f1) ((sj_prt (sj_ia S (b 7)) n p).2.2.2.2.getD f2)) h 12) = 0 := by
              rw [show sj_fi (sj_wL V9 h b m' g_55 (sj_prt (sj_ia S (b 7)) n p).2.1 (sj_prt (sj_ia S (b 7)) n p).2.2.1 ((sj_prt (sj_ia S (b 7)) n p).2.2.2.1.getD f1) ((sj_prt (sj_ia S (b 7)) n p).2.2.2.2.getD f2)) h 10 = (sj_prt (sj_ia S (b 7)) n p).2.2.1 from sj_pS_10 _ h _ _ _ _, show sj_fi (sj_wL V9 h b m' g_55 (sj_prt (sj_ia S (b 7)) n p).2.1 (sj_prt (sj_ia S (b 7)) n p).2.2.1 ((sj_prt (sj_ia S (b 7)) n p).2.2.2.1.getD f1) ((sj_prt (sj_ia S (b 7)) n p).2.2.2.2.getD f2)) h 11 = ((sj_prt (sj_ia S (b 7)) n p).2.2.2.1.getD f1) from sj_pS_11 _ h _ _ _ _, show sj_fi (sj_wL V9 h b m' g_55 (sj_prt (sj_ia S (b 7)) n p).2.1 (sj_prt (sj_ia S (b 7)) n p).2.2.1 ((sj_prt (sj_ia S (b 7)) n p).2.2.2.1.getD f1) ((sj_prt (sj_ia S (b 7)) n p).2.2.2.2.getD f2)) h 12 = ((sj_prt (sj_ia S (b 7)) n p).2.2.2.2.getD f2) from sj_pS_12 _ h _ _ _ _]
              exact c_64
            have hyy : (sj_prt (sj_ia S (b 7)) n p).2.2.1 = 121 → 0 ≤ ((sj_prt (sj_ia S (b 7)) n p).2.2.2.1.getD f1) ∧ ((sj_prt (sj_ia S (b 7)) n p).2.2.2.1.getD f1) ≤ 99 := fun h8 => by
              obtain ⟨v, e1, e2, e3⟩ := sj_prt_y (sj_bin.mp c_51) h8
              rw [e1]
              exact ⟨e2, e3⟩
            refine sj_callVp C 71 rfl dX7_work_68 cv_X7_197 rfl (ct_X7_doPart _ (sj_wL_mm hmV.1 m' g_55 _ _ _ _) hI' hw9) rfl rfl rfl ⟨_, _, kd_h, rfl, rfl, by decide⟩ ⟨rfl, rfl⟩ (fun v_68 S_68 hp_68 => ?_)
            obtain ⟨rfl, g_68, rfl⟩ := hp_68
            rw [sj_wL_do hmV.1, show sj_fi (sj_wL V9 h b m' g_55 (sj_prt (sj_ia S (b 7)) n p).2.1 (sj_prt (sj_ia S (b 7)) n p).2.2.1 ((sj_prt (sj_ia S (b 7)) n p).2.2.2.1.getD f1) ((sj_prt (sj_ia S (b 7)) n p).2.2.2.2.getD f2)) h 10 = (sj_prt (sj_ia S (b 7)) n p).2.2.1 from sj_pS_10 _ h _ _ _ _, show sj_fi (sj_wL V9 h b m' g_55 (sj_prt (sj_ia S (b 7)) n p).2.1 (sj_prt (sj_ia S (b 7)) n p).2.2.1 ((sj_prt (sj_ia S (b 7)) n p).2.2.2.1.getD f1) ((sj_prt (sj_ia S (b 7)) n p).2.2.2.2.getD f2)) h 11 = ((sj_prt (sj_ia S (b 7)) n p).2.2.2.1.getD f1) from sj_pS_11 _ h _ _ _ _, show sj_fi (sj_wL V9 h b m' g_55 (sj_prt (sj_ia S (b 7)) n p).2.1 (sj_prt (sj_ia S (b 7)) n p).2.2.1 ((sj_prt (sj_ia S (b 7)) n p).2.2.2.1.getD f1) ((sj_prt (sj_ia S (b 7)) n p).2.2.2.2.getD f2)) h 12 = ((sj_prt (sj_ia S (b 7)) n p).2.2.2.2.getD f2) from sj_pS_12 _ h _ _ _ _]
            refine sj_iinc_1 C 74 rfl dX7_work_71 rfl rfl ?_
            rw [sj_n1]
            refine sj_aload_n C 75 rfl dX7_work_74 rfl rfl ?_
            refine sj_dup C 76 rfl dX7_work_75 rfl ?_
            refine sj_getI C 79 rfl fd_X7_161 dX7_work_76 kd_h ?_
            refine sj_iconstv C (1) 80 rfl dX7_work_79 rfl ?_
            rw [show ∀ m9 g9 sg9 a9 c9, sj_fi (sj_wL V9 h b m9 g9 (sj_prt (sj_ia S (b 7)) n p).2.1 sg9 a9 c9) h 9 = nI (sj_prt (sj_ia S (b 7)) n p).2.1 from fun m9 g9 sg9 a9 c9 => sj_pS_9 _ h _ _ _ _]
            refine sj_iadd C 81 rfl dX7_work_80 ?_
            rw [nI_1]
            refine sj_putI C 84 rfl fd_X7_161 dX7_work_81 rfl rfl kd_h ?_
            rw [sj_wL_9]
            refine sj_goto C 32 rfl dX7_work_84 ?_
            rw [c_64]
            exact ih j (by omega) _ _ _ _ _ _ (d + 1) (sj_inv_dpt hI' c_64 hyy) (by omega) (by omega) ((sj_wkL_3 hnp hok c_64).symm.trans hres)
  refine sj_aload_n C 1 rfl dX7_work_0 rfl rfl ?_
  refine sj_iconstv C (0) 2 rfl dX7_work_1 rfl ?_
  refine sj_putI C 5 rfl fd_X7_31 dX7_work_2 rfl rfl kd_h ?_
  refine sj_aload_n C 6 rfl dX7_work_5 rfl rfl ?_
  refine sj_callVd C 9 rfl dX7_work_6 cv_X7_191 rfl (ct_X7_findWorksError _ hmz (sj_ps_0 hps)) rfl rfl rfl ⟨_, _, kd_h, rfl, rfl, by decide⟩ ⟨rfl, rfl⟩ ?_
  rw [hrd]
  refine sj_iconstv C (-1) 10 rfl dX7_work_9 rfl ?_
  refine sj_icmp_eq C 19 13 rfl rfl dX7_work_10 (fun c_10 => ?_) (fun c_10 => ?_)
  · refine sj_aload_n C 20 rfl dX7_work_19 rfl rfl ?_
    refine sj_callVv C 23 rfl dX7_work_20 cv_X7_54 rfl (ct_X7_save _ (S := (sj_pW (sj_wFi S h 0 0) h r9)) hmT q hq eT4) rfl rfl rfl ⟨_, _, kd_h, rfl, rfl, by decide⟩ ⟨rfl, rfl⟩ ?_
    refine sj_aload_n C 24 rfl dX7_work_23 rfl rfl ?_
    refine sj_iconstv C (0) 25 rfl dX7_work_24 rfl ?_
    refine sj_putI C 28 rfl fd_X7_161 dX7_work_25 rfl rfl kd_h ?_
    rw [show sj_wFi (sj_wFi (sj_sIa (sj_pW (sj_wFi S h 0 0) h r9) (b 3) (sj_sv q (sj_ia S (b 1)) (sj_ia (sj_pW (sj_wFi S h 0 0) h r9) (b 3)))) h 4 (nI (sj_qn q + 1))) h 9 0 = sj_wkV S h b q (sj_ia S (b 1)) r9 from rfl, hV]
    refine sj_iconstv C (0) 29 rfl dX7_work_28 rfl ?_
    refine sj_istore_n_1 C 30 rfl dX7_work_29 rfl rfl ?_
    refine sj_iconstv C (0) 31 rfl dX7_work_30 rfl ?_
    refine sj_istore_n_2 C 32 rfl dX7_work_31 rfl rfl ?_
    have h9 := cut_32 (n + 2) (sj_ia S (b 1)) (sj_ia V9 (b 15)) 0 (sj_fi V9 h 10) (sj_fi V9 h 11) (sj_fi V9 h 12) 0 hI (by omega) (by omega) hR9
    rw [sj_wL_0 hmV hV9] at h9
    exact h9
  · exact absurd hr c_10
