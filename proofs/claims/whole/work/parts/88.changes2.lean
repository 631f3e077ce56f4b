/-! ONE ACTION OF BOTH: texts, works, what was before -/
section
variable {S : sj_St} {g : Nat → Nat} {m : Nat → Int32} {hs : Bool} {ms : Nat → Int32} {p q : Nat} {Q : Nat → Nat → Int32} {n : Nat} {B : Nat → Int32} {o : Nat}
theorem sq_f13 (hZ : sq_Z S g m hs ms p q Q n B) {T : sj_St} (hx : sq_xp (sq_Cl g) S T) : sj_ia T (sq_b g 13) = sj_ia S (sq_b g 13) := sq_x_ia hx hZ.2.1.1.1.2.2.2.2.2.2.1.2.1 (sq_Cl_no (sq_Z_inj hZ) (k := 148) (by omega) (by omega))
theorem sq_fh (hZ : sq_Z S g m hs ms p q Q n B) {T : sj_St} (hx : sq_xp (sq_Cl g) S T) (k : Nat) : sj_fi T (g 142) k = sj_fi S (g 142) k := sq_x_fi hx hZ.2.1.1.1.1 (sq_Cl_no (sq_Z_inj hZ) (k := 142) (by omega) (by omega)) k
theorem sq_tS_fi (T : sj_St) (h : Nat) (b : Nat → Nat) (p k : Nat) (f : Nat → Int32) {j : Nat} (h9 : j ≠ 9) (h14 : j ≠ 14) (h0 : j ≠ 0) : sj_fi (sj_tS (sj_wFi T h 0 0) h b p k f) h j = sj_fi T h j := (sj_tS_o _ h b p k f h9 h14).trans (sj_fi_wFi_k T h 0 h0)
theorem sq_tS_xp (T : sj_St) (g : Nat → Nat) (p k : Nat) (f : Nat → Int32) : sq_xp (sq_Mc g) T (sj_tS T (g 142) (sq_b g) p k f) := sq_xp_tr (sq_xp_tr (sq_m_fi 9 _) (sq_m_ia f (sq_M_13 g))) (sq_m_fi 14 _)
theorem sq_tS_me (hZ : sq_Z S g m hs ms p q Q n B) (T : sj_St) (p k : Nat) (f : Nat → Int32) : sq_me T (sj_tS T (g 142) (sq_b g) p k f) g := by
  have hn := sq_Z_inj hZ
  exact sq_me_tr (sq_me_tr (sq_me_f _ (by omega) (by omega) (by omega)) (sq_me_a f (sj_mm_ne hn (Or.inl rfl) (Or.inr (Or.inl rfl))) (sj_mm_ne hn (Or.inr (Or.inl rfl)) (Or.inr (Or.inl rfl))) (sj_mm_ne hn (Or.inr (Or.inr (Or.inl rfl))) (Or.inr (Or.inl rfl))) (sj_mm_ne hn (Or.inr (Or.inr (Or.inr rfl))) (Or.inr (Or.inl rfl))))) (sq_me_f _ (by omega) (by omega) (by omega))
theorem sq_ia_w (S : sj_St) (a k : Nat) (v : Int32) (c : Nat) : sj_ia (sj_wFi S a k v) c = sj_ia S c := rfl
theorem sq_ia_p (S : sj_St) (a p : Nat) (x y z : Int32) (c : Nat) : sj_ia (sj_pS S a p x y z) c = sj_ia S c := rfl
theorem sq_fi_i (S : sj_St) (a : Nat) (f : Nat → Int32) (c k : Nat) : sj_fi (sj_sIa S a f) c k = sj_fi S c k := rfl
theorem sq_pS_xp (T : sj_St) (g : Nat → Nat) (p : Nat) (sg f1 f2 : Int32) : sq_xp (sq_Mc g) T (sj_pS T (g 142) p sg f1 f2) := sq_xp_tr (sq_xp_tr (sq_xp_tr (sq_m_fi 9 _) (sq_m_fi 10 _)) (sq_m_fi 11 _)) (sq_m_fi 12 _)
theorem sq_pS_me (T : sj_St) (g : Nat → Nat) (p : Nat) (sg f1 f2 : Int32) : sq_me T (sj_pS T (g 142) p sg f1 f2) g := sq_me_tr (sq_me_tr (sq_me_tr (sq_me_f _ (by omega) (by omega) (by omega)) (sq_me_f _ (by omega) (by omega) (by omega))) (sq_me_f _ (by omega) (by omega) (by omega))) (sq_me_f _ (by omega) (by omega) (by omega))
set_option maxHeartbeats 100000 in
theorem st_lay (l : Launch) (hl : l.stackTraces = false) (hZ : sq_Z S g m hs ms p q Q n B) (ho : sj_ou S o) (hgo : ∀ i, i < 160 → g i ≠ o) (age : Int32) : sq_J l S g o mL_lay [(0, 9, 12, 13), (0, 9, 15, 15)] [.ref (g 141), .int age, .ref o] mX7_lay [.ref (g 142), .int age] := by
  have hI := hZ.2.2.1.1
  have hu := hZ.2.2.1.2
  have kx := hZ.1.1.1.1
  obtain ⟨R9, hR9⟩ : ∃ R9, sj_sht B n (sj_ia S (sq_b g 13)) = R9 := ⟨_, rfl⟩
  have hRT : ∀ T, sq_xp (sq_Cl g) S T → sj_sht B n (sj_ia (sj_wFi T (g 142) 0 0) (sq_b g 13)) = R9 := fun T hx => (congrArg (sj_sht B n) (sq_f13 hZ hx)).trans hR9
  have hpost : ∀ (T : sj_St) (t : Int32), sj_fi (sj_wFi (sj_lyT T (g 142) (sq_b g) R9) (g 142) 0 t) (g 142) 0 = t ∧ sq_xp (sq_Mc g) T (sj_wFi (sj_lyT T (g 142) (sq_b g) R9) (g 142) 0 t) ∧ sq_me T (sj_wFi (sj_lyT T (g 142) (sq_b g) R9) (g 142) 0 t) g := fun T t => ⟨sj_fi_wFi _ (g 142) 0 t, sq_xp_tr (sq_xp_tr (sq_m_fi 0 0) (sq_tS_xp _ g _ _ _)) (sq_m_fi 0 t), sq_me_tr (sq_me_tr (sq_me_f 0 (by omega) (by omega) (by omega)) (sq_tS_me hZ _ _ _ _)) (sq_me_f t (by omega) (by omega) (by omega))⟩
  by_cases h1 : ¬ R9.1 = -1 ∨ sj_wi age 0 99 = false
  · have h1' := h1
    rw [← hR9] at h1'
    refine sq_J_x hZ ho hgo 1 (by decide) (ct_L_lay_1 l kx ho age (ct_X6_lay_1 l hZ.1 hI hl age h1')) (fun T hx hM => sj_Ctr_mono (ct_X7_lay_1_b l hM.1 hM.2.2.2 R9 (hRT T hx) age h1) ?_)
    rintro v U ⟨rfl, rfl⟩
    exact ⟨rfl, hpost T 1⟩
  · have hok : R9.1 = -1 := Classical.byContradiction (fun e => h1 (Or.inl e))
    have ha : sj_wi age 0 99 = true := sq_nf (fun e => h1 (Or.inr e))
    by_cases h2 : m 9 = 8
    · have hok' := hok
      rw [← hR9] at hok'
      refine sq_J_x hZ ho hgo 2 (by decide) (ct_L_lay_2 l kx ho age (ct_X6_lay_2 l hZ.1 hI hl age ha hok' h2)) (fun T hx hM => sj_Ctr_mono (ct_X7_lay_2_b l hM.1 hM.2.2.2 R9 (hRT T hx) age hok ha h2) ?_)
      rintro v U ⟨rfl, rfl⟩
      exact ⟨rfl, hpost T 2⟩
    · obtain ⟨h9, hn8⟩ := id hI.1
      have hns : sj_tn (m 9) < 8 := by
        refine Nat.lt_of_le_of_ne hn8 (fun e => h2 ?_)
        rw [h9, e]
        rfl
      have h60 := hZ.2.1.2.2.2.2.1
      have hok' := hok
      rw [← hR9] at hok'
      obtain ⟨hk, hf⟩ := sj_sht_in h60 hok'
      rw [hR9] at hk hf
      refine sq_J_r hZ ho hgo (nI (sj_tn (m 9))) ⟨⟨sj_inv_lay hI rfl hns ha hk hf, sj_uc_lay hI rfl hns ha hk hf hu⟩, hZ.2.2.2.1, sq_Z_Qs hZ⟩ (ct_L_lay_r l kx ho age (ct_X6_lay l hZ.1 hI hZ.2.2.2.2.2 age ha hns hR9 hok) (sq_ou_xp hgo ho)) (fun T hx hM => sj_Ctr_mono (ct_X7_lay_0_b l hM.1 hM.2.2.2 R9 (hRT T hx) age hok ha _ h9 hns q (sq_Z_q hZ) hM.2.1.1) ?_)
      rintro v U ⟨rfl, rfl⟩
      have hn := sq_Z_inj hZ
      have n31 : sq_b g 3 ≠ sq_b g 1 := fun e => absurd (hn _ _ (by decide) (by decide) e) (by decide)
      have n51 : sq_b g 5 ≠ sq_b g 1 := fun e => absurd (hn _ _ (by decide) (by decide) e) (by decide)
      have n71 : sq_b g 7 ≠ sq_b g 1 := fun e => absurd (hn _ _ (by decide) (by decide) e) (by decide)
      have n53 : sq_b g 5 ≠ sq_b g 3 := fun e => absurd (hn _ _ (by decide) (by decide) e) (by decide)
      have n73 : sq_b g 7 ≠ sq_b g 3 := fun e => absurd (hn _ _ (by decide) (by decide) e) (by decide)
      have n3 : sq_b g 3 ≠ sq_b g 13 := sj_mm_ne hn (Or.inr (Or.inl rfl)) (Or.inr (Or.inl rfl))
      have n5 : sq_b g 5 ≠ sq_b g 13 := sj_mm_ne hn (Or.inr (Or.inr (Or.inl rfl))) (Or.inr (Or.inl rfl))
      have n7 : sq_b g 7 ≠ sq_b g 13 := sj_mm_ne hn (Or.inr (Or.inr (Or.inr rfl))) (Or.inr (Or.inl rfl))
      have e3 : sj_ia (sj_lyT T (g 142) (sq_b g) R9) (sq_b g 3) = sj_ia T (sq_b g 3) := sj_ia_sIa_ne _ _ n3
      have e5 : sj_ia (sj_lyT T (g 142) (sq_b g) R9) (sq_b g 5) = sj_ia T (sq_b g 5) := sj_ia_sIa_ne _ _ n5
      have e7 : sj_ia (sj_lyT T (g 142) (sq_b g) R9) (sq_b g 7) = sj_ia T (sq_b g 7) := sj_ia_sIa_ne _ _ n7
      refine ⟨rfl, ?_, rfl, sq_xp_tr (sq_xp_tr (sq_xp_tr (sq_xp_tr (sq_xp_tr (sq_m_fi 0 0) (sq_tS_xp _ g _ _ _)) (sq_m_ia _ (sq_M_3 g))) (sq_m_fi 4 _)) (sq_m_ia _ (sq_M_1 g))) (sq_m_fi 8 0), ?_⟩
      · unfold sj_lyU
        rw [sj_fi_wFi_k _ (g 142) _ (show 0 ≠ 8 by omega), sq_fi_i, sj_fi_wFi_k _ (g 142) _ (show 0 ≠ 4 by omega), sq_fi_i]
        exact (sj_tS_o (sj_wFi T (g 142) 0 0) (g 142) (sq_b g) _ _ _ (by omega) (by omega)).trans (sj_fi_wFi T (g 142) 0 0)
      · have a4 : sj_fi (sj_wFi (sj_sIa (sj_lyU T (g 142) (sq_b g) q m R9) (sq_b g 1) (sj_lay m (sj_tn (m 9)) age R9.2.2.1 R9.2.2.2)) (g 142) 8 0) (g 142) 4 = nI (sj_qn q + 1) := by
          unfold sj_lyU
          rw [sj_fi_wFi_k _ (g 142) _ (show 4 ≠ 8 by omega), sq_fi_i, sj_fi_wFi]
        have a6 : sj_fi (sj_wFi (sj_sIa (sj_lyU T (g 142) (sq_b g) q m R9) (sq_b g 1) (sj_lay m (sj_tn (m 9)) age R9.2.2.1 R9.2.2.2)) (g 142) 8 0) (g 142) 6 = sj_fi T (g 142) 6 := by
          unfold sj_lyU
          rw [sj_fi_wFi_k _ (g 142) _ (show 6 ≠ 8 by omega), sq_fi_i, sj_fi_wFi_k _ (g 142) _ (show 6 ≠ 4 by omega), sq_fi_i]
          exact sq_tS_fi T (g 142) (sq_b g) _ _ _ (by omega) (by omega) (by omega)
        refine sq_M_sv hM (sq_Z_q hZ) ⟨rfl, rfl, rfl⟩ a4 a6 (sj_fi_wFi _ (g 142) 8 0) (by omega) ?_ ?_ ?_ ?_
        · rw [sq_ia_w, sj_ia_sIa]
        · unfold sj_lyU
          rw [sq_ia_w, sj_ia_sIa_ne _ _ n31, sq_ia_w, sj_ia_sIa, e3]
        · unfold sj_lyU
          rw [sq_ia_w, sj_ia_sIa_ne _ _ n51, sq_ia_w, sj_ia_sIa_ne _ _ n53, e5]
        · unfold sj_lyU
          rw [sq_ia_w, sj_ia_sIa_ne _ _ n71, sq_ia_w, sj_ia_sIa_ne _ _ n73, e7]
          exact hM.2.2.2.2.2
/-- what works leave behind -/
theorem sj_wkL_ok {B : Nat → Int32} {n : Nat} : ∀ (j : Nat) (m : Nat → Int32) (p : Nat) (f1 f2 : Int32) (d : Nat), sj_inv m → sj_uc m → sj_inv (sj_wkL B n j m p f1 f2 d).1 ∧ sj_uc (sj_wkL B n j m p f1 f2 d).1
  | 0, m, p, f1, f2, d, hI, hu => ⟨hI, hu⟩
  | j + 1, m, p, f1, f2, d, hI, hu => by
    by_cases h1 : n ≤ p
    · rw [sj_wkL_1 h1]
      exact ⟨hI, hu⟩
    · by_cases h2 : (sj_prt B n p).1 = false
      · rw [sj_wkL_2 h1 h2]
        exact ⟨hI, hu⟩
      · by_cases h3 : sj_wnp m (sj_prt B n p).2.2.1 ((sj_prt B n p).2.2.2.1.getD f1) ((sj_prt B n p).2.2.2.2.getD f2) = 0
        · rw [sj_wkL_3 h1 h2 h3]
          have hy : (sj_prt B n p).2.2.1 = 121 → 0 ≤ ((sj_prt B n p).2.2.2.1.getD f1) ∧ ((sj_prt B n p).2.2.2.1.getD f1) ≤ 99 := fun e => by
            obtain ⟨v, hv, h0⟩ := sj_prt_y (sq_nf h2) e
            rw [hv]
            exact h0
          exact sj_wkL_ok j _ _ _ _ _ (sj_inv_dpt hI h3 hy) (sj_uc_dpt hI hu h3 hy)
        · rw [sj_wkL_4 h1 h2 h3]
          exact ⟨hI, hu⟩
theorem sj_wkE_ok {r : (Nat → Int32) × Nat × Int32} (hI : sj_inv r.1) (hu : sj_uc r.1) : sj_inv (sj_wkE r) ∧ sj_uc (sj_wkE r) := by
  have hne : ∀ j, j ≠ 12 → j ≠ 13 → sj_wkE r j = r.1 j := fun j h1 h2 => (sj_upd_ne _ _ h2).trans (sj_upd_ne _ _ h1)
  have hIM : sj_inv (sj_wkE r) := sj_inv_cg (fun j _ hj => hne j (by omega) (by omega)) hI
  exact ⟨hIM, sj_uc_cg (sj_inv_oav hI) (sj_inv_oav hIM) (congrArg sj_tn (hne 10 (by omega) (by omega))) (fun k w hk hw => by
    unfold sj_oa
    exact hne _ (by omega) (by omega)) hu⟩
set_option maxHeartbeats 400000 in
theorem st_work (l : Launch) (hl : l.stackTraces = false) (hZ : sq_Z S g m hs ms p q Q n B) (ho : sj_ou S o) (hgo : ∀ i, i < 160 → g i ≠ o) : sq_J l S g o mL_work [(0, 8, 11, 13)] [.ref (g 141), .ref o] mX7_work [.ref (g 142)] := by
  have hI := hZ.2.2.1.1
  have hu := hZ.2.2.1.2
  have kx := hZ.1.1.1.1
  obtain ⟨r9, hr9⟩ : ∃ r9, sj_wkt B n (sj_fi S (g 142) 10) (sj_fi S (g 142) 11) (sj_fi S (g 142) 12) = r9 := ⟨_, rfl⟩
  have hrT : ∀ T, sq_xp (sq_Cl g) S T → sj_wkt B n (sj_fi (sj_wFi T (g 142) 0 0) (g 142) 10) (sj_fi (sj_wFi T (g 142) 0 0) (g 142) 11) (sj_fi (sj_wFi T (g 142) 0 0) (g 142) 12) = r9 := fun T hx => by
    rw [sj_fi_wFi_k T (g 142) (j := 10) 0 (by omega), sj_fi_wFi_k T (g 142) (j := 11) 0 (by omega), sj_fi_wFi_k T (g 142) (j := 12) 0 (by omega), sq_fh hZ hx, sq_fh hZ hx, sq_fh hZ hx]
    exact hr9
  by_cases h1 : r9.1 = -1
  · have h1' := h1
    rw [← hr9] at h1'
    obtain ⟨R9, hR9⟩ : ∃ R9, sj_wkL B n (n + 2) m 0 r9.2.2.2.1 r9.2.2.2.2 0 = R9 := ⟨_, rfl⟩
    have hok := sj_wkL_ok (B := B) (n := n) (n + 2) m 0 r9.2.2.2.1 r9.2.2.2.2 0 hI hu
    rw [hR9] at hok
    refine sq_J_r hZ ho hgo (nI R9.2.1) ⟨sj_wkE_ok hok.1 hok.2, hZ.2.2.2.1, sq_Z_Qs hZ⟩ (sq_CtW_fr (ct_L_work_r l kx ho (ct_X6_work l hZ.1 hI hu _ _ _ h1' r9.2.2.2.1 r9.2.2.2.2 hR9) (sq_ou_fr hgo ho))) (fun T hx hM => ?_)
    obtain ⟨V9, hV⟩ : ∃ V9, sj_wkV T (g 142) (sq_b g) q m r9 = V9 := ⟨_, rfl⟩
    have hn := sq_Z_inj hZ
    have n31 : sq_b g 3 ≠ sq_b g 1 := fun e => absurd (hn _ _ (by decide) (by decide) e) (by decide)
    have n51 : sq_b g 5 ≠ sq_b g 1 := fun e => absurd (hn _ _ (by decide) (by decide) e) (by decide)
    have n71 : sq_b g 7 ≠ sq_b g 1 := fun e => absurd (hn _ _ (by decide) (by decide) e) (by decide)
    have n53 : sq_b g 5 ≠ sq_b g 3 := fun e => absurd (hn _ _ (by decide) (by decide) e) (by decide)
    have n73 : sq_b g 7 ≠ sq_b g 3 := fun e => absurd (hn _ _ (by decide) (by decide) e) (by decide)
    have n1 : sq_b g 1 ≠ sq_b g 15 := sj_mm_ne hn (Or.inl rfl) (Or.inl rfl)
    have n3 : sq_b g 3 ≠ sq_b g 15 := sj_mm_ne hn (Or.inr (Or.inl rfl)) (Or.inl rfl)
    have n5 : sq_b g 5 ≠ sq_b g 15 := sj_mm_ne hn (Or.inr (Or.inr (Or.inl rfl))) (Or.inl rfl)
    have n7 : sq_b g 7 ≠ sq_b g 15 := sj_mm_ne hn (Or.inr (Or.inr (Or.inr rfl))) (Or.inl rfl)
    -- what V9 is
    have v0 : V9.1 = T.1 ∧ V9.2.1 = T.2.1 ∧ V9.2.2.1 = T.2.2.1 := by rw [← hV]; exact ⟨rfl, rfl, rfl⟩
    have vl : sj_la V9 = sj_la T := by rw [← hV]; rfl
    have vx : sq_xp (sq_Mc g) T V9 := by
      rw [← hV]
      exact sq_xp_tr (sq_xp_tr (sq_xp_tr (sq_xp_tr (sq_m_fi 0 0) (sq_pS_xp _ g _ _ _ _)) (sq_m_ia _ (sq_M_3 g))) (sq_m_fi 4 _)) (sq_m_fi 9 0)
    have vf : ∀ j, j ≠ 9 → j ≠ 4 → sj_fi V9 (g 142) j = sj_fi (sj_pW (sj_wFi T (g 142) 0 0) (g 142) r9) (g 142) j := fun j h9 h4 => by
      rw [← hV]
      exact (sj_fi_wFi_k _ (g 142) _ h9).trans (sj_fi_wFi_k _ (g 142) _ h4)
    have v4 : sj_fi V9 (g 142) 4 = nI (sj_qn q + 1) := by
      rw [← hV]
      exact (sj_fi_wFi_k _ (g 142) _ (by omega)).trans (sj_fi_wFi _ (g 142) 4 _)
    have v11 : sj_fi V9 (g 142) 11 = r9.2.2.2.1 := (vf 11 (by omega) (by omega)).trans (sj_pS_11 _ _ _ _ _ _)
    have v12 : sj_fi V9 (g 142) 12 = r9.2.2.2.2 := (vf 12 (by omega) (by omega)).trans (sj_pS_12 _ _ _ _ _ _)
    have vk : ∀ j, j < 9 → j ≠ 4 → j ≠ 0 → sj_fi V9 (g 142) j = sj_fi T (g 142) j := fun j hj h4 h0 => (vf j (by omega) h4).trans ((sj_pS_o _ _ _ _ _ _ (Or.inl hj)).trans (sj_fi_wFi_k T (g 142) 0 h0))
    have v00 : sj_fi V9 (g 142) 0 = 0 := (vf 0 (by omega) (by omega)).trans ((sj_pS_o _ _ _ _ _ _ (Or.inl (by omega))).trans (sj_fi_wFi T (g 142) 0 0))
    have w3 : sj_ia V9 (sq_b g 3) = sj_sv q m (sj_ia T (sq_b g 3)) := by
      rw [← hV]
      exact sj_ia_sIa _ _ _
    have w5 : sj_ia V9 (sq_b g 5) = sj_ia T (sq_b g 5) := by
      rw [← hV]
      exact sj_ia_sIa_ne _ _ n53
    have w7 : sj_ia V9 (sq_b g 7) = sj_ia T (sq_b g 7) := by
      rw [← hV]
      exact sj_ia_sIa_ne _ _ n73
    have hR7 : sj_wkR V9 (g 142) m B n = R9 := by
      unfold sj_wkR
      rw [v11, v12]
      exact hR9
    refine sj_Ctr_mono (ct_X7_work_0_b l hM.1 hI hM.2.2.2 r9 (hrT T hx) h1 q (sq_Z_q hZ) hM.2.1.1 V9 hV R9 hR7) ?_
    clear hV
    rintro v U ⟨rfl, gg, pp, sg, f1, f2, rfl⟩
    have u1 : ∀ j, j < 8 → sj_fi (sj_wFi (sj_wL V9 (g 142) (sq_b g) (sj_wkE R9) gg pp sg f1 f2) (g 142) 8 0) (g 142) j = sj_fi V9 (g 142) j := fun j hj => (sj_fi_wFi_k _ (g 142) _ (by omega)).trans (sj_pS_o _ _ _ _ _ _ (Or.inl (by omega)))
    refine ⟨rfl, (u1 0 (by omega)).trans v00, vl, sq_xp_tr vx (sq_xp_tr (sq_xp_tr (sq_xp_tr (sq_m_ia _ (sq_M_1 g)) (sq_m_ia _ (sq_M_15 g))) (sq_pS_xp _ g _ _ _ _)) (sq_m_fi 8 0)), ?_⟩
    refine sq_M_sv hM (sq_Z_q hZ) v0 ((u1 4 (by omega)).trans v4) ((u1 6 (by omega)).trans (vk 6 (by omega) (by omega) (by omega))) (sj_fi_wFi _ (g 142) 8 0) (by omega) ?_ ?_ ?_ ?_
    · unfold sj_wL
      rw [sq_ia_w, sq_ia_p, sj_ia_sIa_ne _ _ n1, sj_ia_sIa]
    · unfold sj_wL
      rw [sq_ia_w, sq_ia_p, sj_ia_sIa_ne _ _ n3, sj_ia_sIa_ne _ _ n31, w3]
    · unfold sj_wL
      rw [sq_ia_w, sq_ia_p, sj_ia_sIa_ne _ _ n5, sj_ia_sIa_ne _ _ n51, w5]
    · unfold sj_wL
      rw [sq_ia_w, sq_ia_p, sj_ia_sIa_ne _ _ n7, sj_ia_sIa_ne _ _ n71, w7]
      exact hM.2.2.2.2.2
  · have h1' := h1
    rw [← hr9] at h1'
    refine sq_J_x hZ ho hgo 1 (by decide) (ct_L_work_1 l kx ho (ct_X6_work_1 l hZ.1 hI hl _ _ _ h1')) (fun T hx hM => sj_Ctr_mono (ct_X7_work_1_b l hM.1 hM.2.2.2 r9 (hrT T hx) h1) ?_)
    rintro v U ⟨rfl, rfl⟩
    exact ⟨rfl, sj_fi_wFi _ (g 142) 0 1, sq_xp_tr (sq_xp_tr (sq_m_fi 0 0) (sq_pS_xp _ g _ _ _ _)) (sq_m_fi 0 1), sq_me_tr (sq_me_tr (sq_me_f 0 (by omega) (by omega) (by omega)) (sq_pS_me _ g _ _ _ _)) (sq_me_f 1 (by omega) (by omega) (by omega))⟩
theorem sj_cp_cg {k : Nat} {f h z : Nat → Int32} (e : ∀ j, j < k → f j = h j) : sj_cp k f z = sj_cp k h z := by
  funext j
  unfold sj_cp
  by_cases hj : j < k
  · rw [if_pos hj, if_pos hj]
    exact e j hj
  · rw [if_neg hj, if_neg hj]
theorem sj_cp_lt {k : Nat} {f z : Nat → Int32} : ∀ j, j < k → sj_cp k f z j = f j := fun j hj => if_pos hj
set_option maxHeartbeats 100000 in
theorem st_undo (l : Launch) (hl : l.stackTraces = false) (hZ : sq_Z S g m hs ms p q Q n B) (ho : sj_ou S o) (hgo : ∀ i, i < 160 → g i ≠ o) : sq_J l S g o mL_undo [(0, 8, 11, 15)] [.ref (g 141), .ref o] mX7_undo [.ref (g 142)] := by
  have hI := hZ.2.2.1.1
  have kx := hZ.1.1.1.1
  cases q with
  | zero =>
    refine sq_J_x hZ ho hgo 1 (by decide) (ct_L_undo_1 l kx ho (ct_X6_undo_1 l hZ.1 hI hl rfl)) (fun T hx hM => sj_Ctr_mono (ct_X7_undo_0 l hM.1 hM.2.1.1) ?_)
    rintro v U ⟨rfl, rfl⟩
    exact ⟨rfl, sj_fi_wFi _ (g 142) 0 1, sq_xp_tr (sq_m_fi 0 0) (sq_m_fi 0 1), sq_me_tr (sq_me_f 0 (by omega) (by omega) (by omega)) (sq_me_f 1 (by omega) (by omega) (by omega))⟩
  | succ k =>
    have h6 := sq_Z_q hZ
    obtain ⟨hIQ, huQ⟩ := hZ.2.2.2.2.1 0 (by omega)
    have hc := ct_X6_undo l hZ.1 hI (by omega) hIQ
    have hc2 : sj_Ctr l mX6_undo [.ref (g 141)] S (fun r T => r = some (.int (nI k)) ∧ sq_fr (sq_Cl g) S T ∧ sq_W T g (sj_cp 434 (Q 0) m) hs ms (sq_p6 p) k (fun j => Q (j + 1)) n B) := sj_Ctr_mono hc (fun v T h => ⟨h.1, h.2.1, sq_W_434 sj_cp_lt hIQ h.2.2⟩)
    refine sq_J_r hZ ho hgo (nI k) ⟨⟨sj_inv_434 sj_cp_lt hIQ, sj_uc_434 sj_cp_lt hIQ huQ⟩, hZ.2.2.2.1, fun j hj => hZ.2.2.2.2.1 (j + 1) (by omega)⟩ (sq_CtW_fr (ct_L_undo_r l kx ho hc2 (sq_ou_fr hgo ho))) (fun T hx hM => sj_Ctr_mono (ct_X7_undo_s l hM.1 k (by omega) hM.2.1.1) ?_)
    rintro v U ⟨rfl, rfl⟩
    have e0 : sj_cp 434 (fun j => (sj_ia T (sq_b g 3)) (434 * k + j)) m = sj_cp 434 (Q 0) m := sj_cp_cg (fun j hj => by
      have h9 := hM.2.1.2 0 (by omega) j hj
      rw [show k + 1 - 1 - 0 = k by omega] at h9
      exact h9)
    rw [e0]
    have hn := sq_Z_inj hZ
    have n31 : sq_b g 3 ≠ sq_b g 1 := fun e => absurd (hn _ _ (by decide) (by decide) e) (by decide)
    have n51 : sq_b g 5 ≠ sq_b g 1 := fun e => absurd (hn _ _ (by decide) (by decide) e) (by decide)
    have n71 : sq_b g 7 ≠ sq_b g 1 := fun e => absurd (hn _ _ (by decide) (by decide) e) (by decide)
    obtain ⟨⟨m0, m1⟩, ⟨f4, f4'⟩, ⟨f6, f6'⟩, f8, f60, e7⟩ := hM
    refine ⟨rfl, ?_, rfl, sq_xp_tr (sq_xp_tr (sq_m_fi 0 0) (sq_m_fi 4 _)) (sq_m_ia _ (sq_M_1 g)), ⟨sj_mo_e m0 ⟨rfl, rfl, rfl⟩, sj_ia_sIa _ _ _⟩, ⟨sj_fi_wFi _ (g 142) 4 _, ?_⟩, ⟨?_, ?_⟩, ?_, f60, (sj_ia_sIa_ne _ _ n71).trans e7⟩
    · exact (sj_fi_wFi_k _ (g 142) (j := 0) (k := 4) _ (by omega)).trans (sj_fi_wFi T (g 142) 0 0)
    · intro j hj a ha
      refine (congrFun (sj_ia_sIa_ne (sj_wFi (sj_wFi T (g 142) 0 0) (g 142) 4 (nI k)) _ n31) _).trans ?_
      have h9 := f4' (j + 1) (by omega) a ha
      rw [show k + 1 - 1 - (j + 1) = k - 1 - j by omega] at h9
      exact h9
    · exact ((sj_fi_wFi_k _ (g 142) (j := 6) (k := 4) _ (by omega)).trans (sj_fi_wFi_k T (g 142) 0 (by omega))).trans f6
    · intro h a ha
      exact (congrFun (sj_ia_sIa_ne (sj_wFi (sj_wFi T (g 142) 0 0) (g 142) 4 (nI k)) _ n51) _).trans (f6' h a ha)
    · exact ((sj_fi_wFi_k _ (g 142) (j := 8) (k := 4) _ (by omega)).trans (sj_fi_wFi_k T (g 142) 0 (by omega))).trans f8
set_option maxHeartbeats 100000 in
theorem st_restore (l : Launch) (hl : l.stackTraces = false) (hZ : sq_Z S g m hs ms p q Q n B) (ho : sj_ou S o) (hgo : ∀ i, i < 160 → g i ≠ o) : sq_J l S g o mL_restore [(0, 8, 11, 15)] [.ref (g 141), .ref o] mX7_restore [.ref (g 142)] := by
  have hI := hZ.2.2.1.1
  have kx := hZ.1.1.1.1
  cases hs with
  | false =>
    refine sq_J_x hZ ho hgo 1 (by decide) (ct_L_restore_1 l kx ho (ct_X6_restore_1 l hZ.1 hI hl rfl)) (fun T hx hM => sj_Ctr_mono (ct_X7_restore_0 l hM.1 hM.2.2.1.1) ?_)
    rintro v U ⟨rfl, rfl⟩
    exact ⟨rfl, sj_fi_wFi _ (g 142) 0 1, sq_xp_tr (sq_m_fi 0 0) (sq_m_fi 0 1), sq_me_tr (sq_me_f 0 (by omega) (by omega) (by omega)) (sq_me_f 1 (by omega) (by omega) (by omega))⟩
  | true =>
    obtain ⟨hIs, hus⟩ := hZ.2.2.2.1 rfl
    have hc2 : sj_Ctr l mX6_restore [.ref (g 141)] S (fun r T => r = some (.int (ms 9)) ∧ sq_fr (sq_Cl g) S T ∧ sq_W T g (sj_cp 434 ms m) true ms (sq_n6 p) (sq_q6 q) (sq_Qs m Q) n B) := sj_Ctr_mono (ct_X6_restore l hZ.1 hI rfl hIs) (fun v T h => ⟨h.1, h.2.1, sq_W_434 sj_cp_lt hIs h.2.2⟩)
    refine sq_J_r hZ ho hgo (ms 9) ⟨⟨sj_inv_434 sj_cp_lt hIs, sj_uc_434 sj_cp_lt hIs hus⟩, hZ.2.2.2.1, sq_Z_Qs hZ⟩ (sq_CtW_fr (ct_L_restore_r l kx ho hc2 (sq_ou_fr hgo ho))) (fun T hx hM => ?_)
    have h6 : ¬ sj_fi T (g 142) 6 = 0 := by
      rw [hM.2.2.1.1]
      decide
    refine sj_Ctr_mono (ct_X7_restore_s l hM.1 h6 q (sq_Z_q hZ) hM.2.1.1) ?_
    rintro v U ⟨rfl, rfl⟩
    have h5 : ∀ a, a < 434 → sj_ia T (sq_b g 5) a = ms a := hM.2.2.1.2 rfl
    rw [h5 9 (by omega), sj_cp_cg h5]
    exact ⟨rfl, sq_svA hZ hM (sj_cp 434 ms m)⟩
end
