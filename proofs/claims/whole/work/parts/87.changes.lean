/-! ONE ACTION OF BOTH: each change -/
section
variable (l : Launch) (hl : l.stackTraces = false) {S : sj_St} {g : Nat → Nat} {m : Nat → Int32} {hs : Bool} {ms : Nat → Int32} {p q : Nat} {Q : Nat → Nat → Int32} {n : Nat} {B : Nat → Int32} {o : Nat}
set_option maxHeartbeats 60000 in
theorem st_drop (hl : l.stackTraces = false) (hZ : sq_Z S g m hs ms p q Q n B) (ho : sj_ou S o) (hgo : ∀ i, i < 160 → g i ≠ o) (v : Int32) : sq_J l S g o mL_drop [(0, 9, 12, 20)] [.ref (g 141), .int v, .ref o] mX7_drop [.ref (g 142), .int v] := by
  have hI := hZ.2.2.1.1
  have hu := hZ.2.2.1.2
  have kx := hZ.1.1.1.1
  by_cases h1 : sj_isn m v = false
  · exact sq_J_x1 hZ ho hgo 1 (by decide) (ct_L_drop_1 l kx ho v (ct_X6_drop_1 l hZ.1 hI hl v h1)) (fun T hM => ct_X7_drop_1 l hM.1 v h1)
  · have h1' := sq_nf h1
    obtain ⟨i, hi, rfl⟩ := sj_isn_i hI h1'
    have ei : sj_tn (nI i) = i := sj_tn_nI (by have := hI.1.2; omega)
    have hc := ct_X6_drop l hZ.1 hI (nI i) h1'
    rw [ei] at hc
    refine sq_J_r hZ ho hgo (sj_drn m i) ⟨⟨sj_inv_drp hI hi, sj_uc_drp hI hu hi⟩, hZ.2.2.2.1, sq_Z_Qs hZ⟩ (sq_CtW_fr (ct_L_drop_r l kx ho (nI i) hc (sq_ou_fr hgo ho))) (fun T hx hM => sj_Ctr_mono (ct_X7_drop_0 l hM.1 (sj_inv_oav hI) i hi q (sq_Z_q hZ) hM.2.1.1) ?_)
    rintro v U ⟨rfl, rfl⟩
    exact ⟨rfl, sq_svA hZ hM (sj_drp m i)⟩
set_option maxHeartbeats 60000 in
theorem st_pass (hl : l.stackTraces = false) (hZ : sq_Z S g m hs ms p q Q n B) (ho : sj_ou S o) (hgo : ∀ i, i < 160 → g i ≠ o) (y : Int32) : sq_J l S g o mL_pass [(0, 9, 12, 13)] [.ref (g 141), .int y, .ref o] mX7_pass [.ref (g 142), .int y] := by
  have hI := hZ.2.2.1.1
  have hu := hZ.2.2.1.2
  have kx := hZ.1.1.1.1
  by_cases h1 : sj_wi y 1 99 = false
  · exact sq_J_x1 hZ ho hgo 1 (by decide) (ct_L_pass_1 l kx ho y (ct_X6_pass_1 l hZ.1 hI hl y h1)) (fun T hM => ct_X7_pass_1 l hM.1 y h1)
  · have h1' := sq_nf h1
    have hy : 0 ≤ y ∧ y ≤ 99 := ⟨Int32.le_trans (by decide) (sj_wi_iff.mp h1').1, (sj_wi_iff.mp h1').2⟩
    have hIM := sj_inv_pas hI hy _ rfl
    refine sq_J_r hZ ho hgo (sj_old m y (sj_tn (m 9))) ⟨⟨hIM, sj_uc_pas hI hu hIM⟩, hZ.2.2.2.1, sq_Z_Qs hZ⟩ (sq_CtW_fr (ct_L_pass_r l kx ho y (ct_X6_pass l hZ.1 hI y h1') (sq_ou_fr hgo ho))) (fun T hx hM => sj_Ctr_mono (ct_X7_pass_0 l hM.1 (sj_inv_oav hI) y h1' q (sq_Z_q hZ) hM.2.1.1) ?_)
    rintro v U ⟨rfl, rfl⟩
    exact ⟨rfl, sq_svA hZ hM (sj_pas m y (sj_tn (m 9)))⟩
theorem sj_uc_set {m : Nat → Int32} {i : Nat} {v : Int32} (hI : sj_inv m) (hu : sj_uc m) (hi : i < 9) (hIM : sj_inv (upd m i v)) : sj_uc (upd m i v) := by
  have hne : ∀ j, 9 ≤ j → upd m i v j = m j := fun j hj => sj_upd_ne _ _ (by omega)
  exact sj_uc_cg (sj_inv_oav hI) (sj_inv_oav hIM) (congrArg sj_tn (hne 10 (by omega))) (fun k w hk hw => by
    unfold sj_oa
    exact hne _ (by omega)) hu
set_option maxHeartbeats 60000 in
theorem st_set (hl : l.stackTraces = false) (hZ : sq_Z S g m hs ms p q Q n B) (ho : sj_ou S o) (hgo : ∀ i, i < 160 → g i ≠ o) (w v : Int32) : sq_J l S g o mL_set [(0, 10, 13, 20), (0, 10, 17, 13)] [.ref (g 141), .int w, .int v, .ref o] mX7_set [.ref (g 142), .int w, .int v] := by
  have hI := hZ.2.2.1.1
  have hu := hZ.2.2.1.2
  have kx := hZ.1.1.1.1
  by_cases h1 : sj_wi w 0 8 = false
  · exact sq_J_x1 hZ ho hgo 1 (by decide) (ct_L_set_1 l kx ho w v (ct_X6_set_1 l hZ.1 hI hl w v h1)) (fun T hM => ct_X7_set_1 l hM.1 w v h1)
  · have h1' := sq_nf h1
    by_cases h2 : sj_wi v 0 (sj_mst w) = false
    · exact sq_J_x1 hZ ho hgo 2 (by decide) (ct_L_set_2 l kx ho w v (ct_X6_set_2 l hZ.1 hI hl w v h1' h2)) (fun T hM => ct_X7_set_2 l hM.1 w v h1' h2)
    · have h2' := sq_nf h2
      obtain ⟨i, hi, rfl⟩ := sj_wi_nI (n := 8) (by omega) h1'
      have ei : sj_tn (nI i) = i := sj_tn_nI (by omega)
      have hc := ct_X6_set l hZ.1 hI (nI i) v h1' h2'
      rw [ei] at hc
      have hIM := sj_inv_set hI (show i < 9 by omega) h2'
      refine sq_J_r hZ ho hgo (m i) ⟨⟨hIM, sj_uc_set hI hu (show i < 9 by omega) hIM⟩, hZ.2.2.2.1, sq_Z_Qs hZ⟩ (sq_CtW_fr (ct_L_set_r l kx ho (nI i) v hc (sq_ou_fr hgo ho))) (fun T hx hM => sj_Ctr_mono (ct_X7_set_0 l hM.1 i v (by omega) h2' q (sq_Z_q hZ) hM.2.1.1) ?_)
      rintro v U ⟨rfl, rfl⟩
      exact ⟨rfl, sq_svA hZ hM (upd m i _)⟩
set_option maxHeartbeats 100000 in
theorem st_swear (hl : l.stackTraces = false) (hZ : sq_Z S g m hs ms p q Q n B) (ho : sj_ou S o) (hgo : ∀ i, i < 160 → g i ≠ o) (v e : Int32) (like : Bool) : sq_J l S g o mL_swear [(0, 12, 15, 20), (0, 12, 19, 15)] [.ref (g 141), .int v, .int e, .int (sj_bi like), .ref o] mX7_swear [.ref (g 142), .int v, .int e, .int (sj_bi like)] := by
  have hI := hZ.2.2.1.1
  have hu := hZ.2.2.1.2
  have kx := hZ.1.1.1.1
  by_cases h1 : sj_isn m v = false ∨ sj_isn m e = false
  · exact sq_J_x1 hZ ho hgo 1 (by decide) (ct_L_swear_1 l kx ho v e _ (ct_X6_swear_1 l hZ.1 hI hl v e h1 like)) (fun T hM => ct_X7_swear_1 l hM.1 v e h1 like)
  · obtain ⟨hv, he⟩ := sq_no2 h1
    obtain ⟨i, hi, rfl⟩ := sj_isn_i hI hv
    obtain ⟨j, hj, rfl⟩ := sj_isn_i hI he
    have ei : sj_tn (nI i) = i := sj_tn_nI (by have := hI.1.2; omega)
    have ej : sj_tn (nI j) = j := sj_tn_nI (by have := hI.1.2; omega)
    by_cases h2 : sj_why m i j like = 0
    · have h2' : sj_why m (sj_tn (nI i)) (sj_tn (nI j)) like = 0 := by
        rw [ei, ej]
        exact h2
      have hc := ct_X6_swear l hZ.1 hI hu (nI i) (nI j) hv he like h2'
      rw [ei, ej] at hc
      have hIM := sj_inv_sw hI hi hj h2
      refine sq_J_r hZ ho hgo (sj_hds (sj_sw m i j like)) ⟨⟨hIM, sj_uc_sw hI hu hi hj h2⟩, hZ.2.2.2.1, sq_Z_Qs hZ⟩ (sq_CtW_fr (ct_L_swear_r l kx ho (nI i) (nI j) _ hc (sq_ou_fr hgo ho))) (fun T hx hM => sj_Ctr_mono (ct_X7_swear_0 l hM.1 (sj_inv_oav hI) (sj_inv_shs hI) i j hi hj like h2 (sj_sw_28 hI hi hj h2) (sj_inv_oav hIM) q (sq_Z_q hZ) hM.2.1.1) ?_)
      rintro v U ⟨rfl, f, rfl⟩
      obtain ⟨a1, a2, a3, a4⟩ := sq_svA hZ hM (sj_sw m i j like)
      have hn := sq_Z_inj hZ
      exact ⟨rfl, a1, a2, sq_xp_tr a3 (sq_m_ia f (sq_M_15 g)), sq_M_e a4 (sq_me_a f (sj_mm_ne hn (Or.inl rfl) (Or.inl rfl)) (sj_mm_ne hn (Or.inr (Or.inl rfl)) (Or.inl rfl)) (sj_mm_ne hn (Or.inr (Or.inr (Or.inl rfl))) (Or.inl rfl)) (sj_mm_ne hn (Or.inr (Or.inr (Or.inr rfl))) (Or.inl rfl)))⟩
    · have h2' : ¬ sj_why m (sj_tn (nI i)) (sj_tn (nI j)) like = 0 := by
        rw [ei, ej]
        exact h2
      refine sq_J_x hZ ho hgo 2 (by decide) (ct_L_swear_2 l kx ho (nI i) (nI j) _ (ct_X6_swear_2 l hZ.1 hI hl hu (nI i) (nI j) hv he like h2')) (fun T hx hM => sj_Ctr_mono (ct_X7_swear_2 l hM.1 (sj_inv_oav hI) (sj_inv_shs hI) i j hi hj like h2) ?_)
      rintro v U ⟨rfl, f, rfl⟩
      have hn := sq_Z_inj hZ
      exact ⟨rfl, sj_fi_wFi T (g 142) 0 2, sq_xp_tr (sq_m_fi 0 2) (sq_m_ia f (sq_M_15 g)), sq_me_tr (sq_me_f 2 (by omega) (by omega) (by omega)) (sq_me_a f (sj_mm_ne hn (Or.inl rfl) (Or.inl rfl)) (sj_mm_ne hn (Or.inr (Or.inl rfl)) (Or.inl rfl)) (sj_mm_ne hn (Or.inr (Or.inr (Or.inl rfl))) (Or.inl rfl)) (sj_mm_ne hn (Or.inr (Or.inr (Or.inr rfl))) (Or.inl rfl)))⟩
set_option maxHeartbeats 100000 in
theorem st_recant (hl : l.stackTraces = false) (hZ : sq_Z S g m hs ms p q Q n B) (ho : sj_ou S o) (hgo : ∀ i, i < 160 → g i ≠ o) (v e : Int32) : sq_J l S g o mL_recant [(0, 10, 13, 20)] [.ref (g 141), .int v, .int e, .ref o] mX7_recant [.ref (g 142), .int v, .int e] := by
  have hI := hZ.2.2.1.1
  have hu := hZ.2.2.1.2
  have kx := hZ.1.1.1.1
  by_cases h1 : sj_isn m v = false ∨ sj_isn m e = false
  · exact sq_J_x1 hZ ho hgo 1 (by decide) (ct_L_recant_1 l kx ho v e (ct_X6_recant_1 l hZ.1 hI hl v e h1)) (fun T hM => ct_X7_recant_1 l hM.1 v e h1)
  · obtain ⟨hv, he⟩ := sq_no2 h1
    obtain ⟨i, hi, rfl⟩ := sj_isn_i hI hv
    obtain ⟨j, hj, rfl⟩ := sj_isn_i hI he
    have ei : sj_tn (nI i) = i := sj_tn_nI (by have := hI.1.2; omega)
    have ej : sj_tn (nI j) = j := sj_tn_nI (by have := hI.1.2; omega)
    have hc := ct_X6_recant l hZ.1 hI (nI i) (nI j) hv he
    rw [ei, ej] at hc
    by_cases h2 : sj_fo m i j = -1
    · rw [if_pos h2, if_pos h2] at hc
      refine sq_J_r hZ ho hgo 0 ⟨hZ.2.2.1, hZ.2.2.2.1, sq_Z_Qs hZ⟩ (sq_CtW_fr (ct_L_recant_r l kx ho (nI i) (nI j) hc (sq_ou_fr hgo ho))) (fun T hx hM => ?_)
      have h7 := ct_X7_recant_0 l hM.1 (sj_inv_oav hI) i j hi hj q (sq_Z_q hZ) hM.2.1.1
      rw [if_pos h2, if_pos h2] at h7
      refine sj_Ctr_mono h7 ?_
      rintro v U ⟨rfl, rfl⟩
      have h8 := sq_svA hZ hM m
      have e8 : sj_sIa (sj_svS T (g 142) (sq_b g) q m) (sq_b g 1) m = sj_svS T (g 142) (sq_b g) q m := by
        exact sj_sIa_idv (sj_svS_mm hM.1 q).2
      rw [e8] at h8
      exact ⟨rfl, h8⟩
    · rw [if_neg h2, if_neg h2] at hc
      obtain ⟨k, hk, ek⟩ : ∃ k, k < sj_tn (m 10) ∧ sj_tn (sj_fo m i j) = k := by
        rcases sj_fst_in (p := sj_fp m i j) (sj_tn (m 10)) 0 with h8 | ⟨k, -, h8, -, h7⟩
        · exact absurd h8 h2
        · exact ⟨k, by omega, (congrArg sj_tn (show sj_fo m i j = nI k from h7)).trans (sj_tn_nI (by have := hI.2.1.2; omega))⟩
      rw [ek] at hc
      refine sq_J_r hZ ho hgo 1 ⟨⟨sj_inv_dO hI hk, sj_uc_dO hI hu hk⟩, hZ.2.2.2.1, sq_Z_Qs hZ⟩ (sq_CtW_fr (ct_L_recant_r l kx ho (nI i) (nI j) hc (sq_ou_fr hgo ho))) (fun T hx hM => ?_)
      have h7 := ct_X7_recant_0 l hM.1 (sj_inv_oav hI) i j hi hj q (sq_Z_q hZ) hM.2.1.1
      rw [if_neg h2, if_neg h2, ek] at h7
      refine sj_Ctr_mono h7 ?_
      rintro v U ⟨rfl, rfl⟩
      exact ⟨rfl, sq_svA hZ hM (sj_dO m k)⟩
set_option maxHeartbeats 100000 in
theorem st_append (hl : l.stackTraces = false) (hZ : sq_Z S g m hs ms p q Q n B) (ho : sj_ou S o) (hgo : ∀ i, i < 160 → g i ≠ o) (c : Int32) : sq_J l S g o mL_append [(0, 9, 12, 13), (0, 9, 15, 15)] [.ref (g 141), .int c, .ref o] mX7_append [.ref (g 142), .int c] := by
  have hI := hZ.2.2.1.1
  have kx := hZ.1.1.1.1
  have h60 := hZ.2.1.2.2.2.2.1
  by_cases h1 : sj_wi c 33 126 = false
  · exact sq_J_x1 hZ ho hgo 1 (by decide) (ct_L_append_1 l kx ho c (ct_X6_append_1 l hZ.1 hI hl c h1)) (fun T hM => ct_X7_append_1 l hM.1 c h1)
  · have h1' := sq_nf h1
    by_cases h2 : n = 60
    · refine sq_J_x1 hZ ho hgo 2 (by decide) (ct_L_append_2 l kx ho c (ct_X6_append_2 l hZ.1 hI hl c h1' h2)) (fun T hM => ct_X7_append_2 l hM.1 c h1' ?_)
      rw [hM.2.2.2.1, h2]
      rfl
    · have hn : n < 60 := by omega
      refine sq_J_r hZ ho hgo (nI (n + 1)) ⟨hZ.2.2.1, hZ.2.2.2.1, hZ.2.2.2.2.1⟩ (sq_CtW_fr (ct_L_append_r l kx ho c (ct_X6_append l hZ.1 hI c h1' hn) (sq_ou_fr hgo ho))) (fun T hx hM => sj_Ctr_mono (ct_X7_append_0 l hM.1 c h1' n hn hM.2.2.2.1) ?_)
      rintro v U ⟨rfl, rfl⟩
      have hi := sq_Z_inj hZ
      have n17 : sq_b g 1 ≠ sq_b g 7 := fun e => absurd (hi _ _ (by decide) (by decide) e) (by decide)
      have n37 : sq_b g 3 ≠ sq_b g 7 := fun e => absurd (hi _ _ (by decide) (by decide) e) (by decide)
      have n57 : sq_b g 5 ≠ sq_b g 7 := fun e => absurd (hi _ _ (by decide) (by decide) e) (by decide)
      have hM2 := hM
      obtain ⟨⟨m0, m1⟩, ⟨f4, f4'⟩, ⟨f6, f6'⟩, f8, f60, e7⟩ := hM2
      rw [sj_wIa_eq]
      refine ⟨rfl, ?_, rfl, sq_xp_tr (sq_xp_tr (sq_m_fi 0 0) (sq_m_ia _ (sq_M_7 g))) (sq_m_fi 8 _), ⟨sj_mo_e m0 ⟨rfl, rfl, rfl⟩, (sj_ia_sIa_ne _ _ n17).trans m1⟩, ⟨?_, ?_⟩, ⟨?_, ?_⟩, sj_fi_wFi _ (g 142) 8 _, by omega, ?_⟩
      · exact (sj_fi_wFi_k _ (g 142) (j := 0) (k := 8) _ (by omega)).trans (sj_fi_wFi T (g 142) 0 0)
      · exact ((sj_fi_wFi_k _ (g 142) (j := 4) (k := 8) _ (by omega)).trans (sj_fi_wFi_k T (g 142) 0 (by omega))).trans f4
      · intro j hj a ha
        refine Eq.trans ?_ (f4' j hj a ha)
        exact congrFun (sj_ia_sIa_ne (sj_wFi T (g 142) 0 0) _ n37) _
      · exact ((sj_fi_wFi_k _ (g 142) (j := 6) (k := 8) _ (by omega)).trans (sj_fi_wFi_k T (g 142) 0 (by omega))).trans f6
      · intro h a ha
        refine Eq.trans ?_ (f6' h a ha)
        exact congrFun (sj_ia_sIa_ne (sj_wFi T (g 142) 0 0) _ n57) _
      · refine (sj_ia_sIa _ _ _).trans ?_
        show upd (sj_ia T (sq_b g 7)) n c = upd B n c
        rw [e7]
end
