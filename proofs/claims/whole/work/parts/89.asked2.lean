/-! ONE ACTION OF BOTH: what is asked without a catch -/
def sq_K (l : Launch) (S : sj_St) (g : Nat → Nat) (o : Nat) (M6 : sj_M) (av6 : List Value) (M7 : sj_M) (av7 : List Value) (vx : Value) : Prop := ∃ A : sj_St → Prop, sj_Ctr l M6 av6 S (fun v T => v = some vx ∧ A T) ∧ ∀ T, A T → sj_kd T (g 142) = some 7 ∧ sj_Ctr l M7 av7 T (fun v U => v = some vx ∧ sq_ZZ U g o)
section
variable {l : Launch} {S : sj_St} {g : Nat → Nat} {m : Nat → Int32} {hs : Bool} {ms : Nat → Int32} {p q : Nat} {Q : Nat → Nat → Int32} {n : Nat} {B : Nat → Int32} {o : Nat}
theorem sq_K_r (hZ : sq_Z S g m hs ms p q Q n B) (ho : sj_ou S o) (hgo : ∀ i, i < 160 → g i ≠ o) {M6 M7 : sj_M} {av6 av7 : List Value} (vx : Value) {M : Nat → Int32} {hs' : Bool} {ms' : Nat → Int32} {p' q' : Nat} {Q' : Nat → Nat → Int32} {n' : Nat} {B' : Nat → Int32} (hin : (sj_inv M ∧ sj_uc M) ∧ (hs' = true → sj_inv ms' ∧ sj_uc ms') ∧ ∀ j, j < q' → sj_inv (Q' j) ∧ sj_uc (Q' j)) (h6 : sj_Ctr l M6 av6 S (fun v T => v = some vx ∧ sq_fr (sq_Cl g) S T ∧ sq_W T g M hs' ms' p' q' Q' n' B')) (h7 : ∀ T, sq_xp (sq_Cl g) S T → sq_M T g m hs ms q Q n B → sj_Ctr l M7 av7 T (fun v U => v = some vx ∧ sq_xp (sq_Mc g) T U ∧ sq_M U g M hs' ms' q' Q' n' B')) : sq_K l S g o M6 av6 M7 av7 vx := by
  refine ⟨fun T => sq_fr (sq_Cl g) S T ∧ sq_W T g M hs' ms' p' q' Q' n' B', h6, ?_⟩
  rintro T ⟨hf, hW⟩
  have hx := sq_xp_fr hf
  have hM := sq_M_xpC (sq_Z_inj hZ) hx hZ.2.1
  refine ⟨hM.1.1.1, sj_Ctr_mono (h7 T hx hM) ?_⟩
  rintro v U ⟨rfl, hxU, hMU⟩
  exact ⟨rfl, ⟨M, hs', ms', p', q', Q', n', B', sq_W_xpM hxU (sq_Mc_2 hM.1) hW, hMU, hin.1, hin.2.1, hin.2.2, fun i hi => (hZ.2.2.2.2.2 i hi).imp (fun _ hc => sq_x_k hxU (sq_x_k hx hc))⟩, sj_ou_xp hxU (sj_ou_xp hx ho (sq_Cl_o hgo)) (sq_Mc_o hgo)⟩
set_option maxHeartbeats 60000 in
theorem st_clearBuffer (hZ : sq_Z S g m hs ms p q Q n B) (ho : sj_ou S o) (hgo : ∀ i, i < 160 → g i ≠ o) : ∃ r, sq_K l S g o mX6_clearBuffer [.ref (g 141)] mX7_clearBuffer [.ref (g 142)] (.int r) := by
  have hI := hZ.2.2.1.1
  refine ⟨nI n, sq_K_r hZ ho hgo _ ⟨hZ.2.2.1, hZ.2.2.2.1, hZ.2.2.2.2.1⟩ (ct_X6_clearBuffer l hZ.1 hI) (fun T hx hM => sj_Ctr_mono (ct_X7_clearBuffer l hM.1) ?_)⟩
  rintro v U ⟨rfl, rfl⟩
  rw [hM.2.2.2.1]
  obtain ⟨⟨m0, m1⟩, ⟨f4, f4'⟩, ⟨f6, f6'⟩, f8, f60, e7⟩ := hM
  exact ⟨rfl, sq_xp_tr (sq_m_fi 0 0) (sq_m_fi 8 0), ⟨m0, m1⟩, ⟨((sj_fi_wFi_k _ (g 142) (j := 4) (k := 8) _ (by omega)).trans (sj_fi_wFi_k T (g 142) 0 (by omega))).trans f4, f4'⟩, ⟨((sj_fi_wFi_k _ (g 142) (j := 6) (k := 8) _ (by omega)).trans (sj_fi_wFi_k T (g 142) 0 (by omega))).trans f6, f6'⟩, sj_fi_wFi _ (g 142) 8 0, by omega, e7⟩
theorem sq_fe_w {B : Nat → Int32} {n : Nat} (hB : sq_cd B n) (hn : n ≤ 60) (a b c : Int32) : (if (sj_wkt B n a b c).1 = -1 then nI n else (sj_wkt B n a b c).1) = nI (sq_fe B n true) := by
  obtain ⟨h1, h2, -, h4⟩ := sq_ws_eq hB hn (fun _ => 0) (fun _ => 0) (fun _ => 0) a b c
  have h5 := (sq_ws_place hB hn (fun _ => 0) (fun _ => 0) (fun _ => 0)).symm.trans h1
  rw [h5]
  by_cases h : (sj_wkt B n a b c).1 = -1
  · rw [if_pos h, (h4 h).1]
  · rw [if_neg h]
    exact h2.resolve_left h
theorem sq_fe_s {B : Nat → Int32} {n : Nat} (hB : sq_cd B n) (hn : n ≤ 60) (f : Nat → Int32) : (if (sj_sht B n f).1 = -1 then nI n else (sj_sht B n f).1) = nI (sq_fe B n false) := by
  obtain ⟨h1, h2, -, h4⟩ := sq_rs_eq hB hn f (fun _ => 0)
  have h5 := (sq_rs_place hB hn (fun _ => 0)).symm.trans h1
  rw [h5]
  by_cases h : (sj_sht B n f).1 = -1
  · rw [if_pos h, (h4 h).1]
  · rw [if_neg h]
    exact h2.resolve_left h
set_option maxHeartbeats 100000 in
theorem st_firstError (hZ : sq_Z S g m hs ms p q Q n B) (ho : sj_ou S o) (hgo : ∀ i, i < 160 → g i ≠ o) (works : Bool) : ∃ r, sq_K l S g o mX6_firstError [.ref (g 141), .int (sj_bi works)] mX7_firstError [.ref (g 142), .int (sj_bi works)] (.int r) := by
  have hI := hZ.2.2.1.1
  have hB : sq_cd B n := hZ.1.2.2.2.2.2
  have h60 := hZ.2.1.2.2.2.2.1
  refine ⟨nI (sq_fe B n works), sq_K_r hZ ho hgo _ ⟨hZ.2.2.1, hZ.2.2.2.1, hZ.2.2.2.2.1⟩ (ct_X6_firstError l hZ.1 hI works) (fun T hx hM => ?_)⟩
  cases works with
  | true =>
    have h7 := ct_X7_firstError_w_b l hM.1 hM.2.2.2
    rw [sq_fe_w hB h60] at h7
    refine sj_Ctr_mono h7 ?_
    rintro v U ⟨rfl, rfl⟩
    exact ⟨rfl, sq_xp_tr (sq_m_fi 0 0) (sq_pS_xp _ g _ _ _ _), sq_M_e hM (sq_me_tr (sq_me_f 0 (by omega) (by omega) (by omega)) (sq_pS_me _ g _ _ _ _))⟩
  | false =>
    have h7 := ct_X7_firstError_s_b l hM.1 hM.2.2.2
    rw [sq_fe_s hB h60] at h7
    refine sj_Ctr_mono h7 ?_
    rintro v U ⟨rfl, rfl⟩
    exact ⟨rfl, sq_xp_tr (sq_m_fi 0 0) (sq_tS_xp _ g _ _ _), sq_M_e hM (sq_me_tr (sq_me_f 0 (by omega) (by omega) (by omega)) (sq_tS_me hZ _ _ _ _))⟩
set_option maxHeartbeats 60000 in
theorem st_keep (hZ : sq_Z S g m hs ms p q Q n B) (ho : sj_ou S o) (hgo : ∀ i, i < 160 → g i ≠ o) : ∃ r, sq_K l S g o mX6_keep [.ref (g 141)] mX7_keep [.ref (g 142)] (.int r) := by
  have hI := hZ.2.2.1.1
  refine ⟨m 9, sq_K_r hZ ho hgo _ (M := m) (hs' := true) (ms' := m) ⟨hZ.2.2.1, fun _ => hZ.2.2.1, hZ.2.2.2.2.1⟩ (ct_X6_keep l hZ.1 hI) (fun T hx hM => sj_Ctr_mono (ct_X7_keep l hM.1) ?_)⟩
  rintro v U ⟨rfl, rfl⟩
  have hn := sq_Z_inj hZ
  have n15 : sq_b g 1 ≠ sq_b g 5 := fun e => absurd (hn _ _ (by decide) (by decide) e) (by decide)
  have n35 : sq_b g 3 ≠ sq_b g 5 := fun e => absurd (hn _ _ (by decide) (by decide) e) (by decide)
  have n75 : sq_b g 7 ≠ sq_b g 5 := fun e => absurd (hn _ _ (by decide) (by decide) e) (by decide)
  obtain ⟨⟨m0, m1⟩, ⟨f4, f4'⟩, ⟨f6, f6'⟩, f8, f60, e7⟩ := hM
  refine ⟨rfl, sq_xp_tr (sq_xp_tr (sq_m_fi 0 0) (sq_m_ia _ (sq_M_5 g))) (sq_m_fi 6 1), ⟨sj_mo_e m0 ⟨rfl, rfl, rfl⟩, (sj_ia_sIa_ne _ _ n15).trans m1⟩, ⟨?_, ?_⟩, ⟨?_, ?_⟩, ?_, f60, (sj_ia_sIa_ne _ _ n75).trans e7⟩
  · exact ((sj_fi_wFi_k _ (g 142) (j := 4) (k := 6) _ (by omega)).trans (sj_fi_wFi_k T (g 142) 0 (by omega))).trans f4
  · intro j hj a ha
    exact (congrFun (sj_ia_sIa_ne (sj_wFi T (g 142) 0 0) _ n35) _).trans (f4' j hj a ha)
  · exact sj_fi_wFi _ (g 142) 6 1
  · intro h a ha
    exact (congrFun (sj_ia_sIa (sj_wFi T (g 142) 0 0) (sq_b g 5) _) a).trans (sj_cp_lt a ha)
  · exact ((sj_fi_wFi_k _ (g 142) (j := 8) (k := 6) _ (by omega)).trans (sj_fi_wFi_k T (g 142) 0 (by omega))).trans f8
set_option maxHeartbeats 60000 in
theorem st_handShare (hZ : sq_Z S g m hs ms p q Q n B) (ho : sj_ou S o) (hgo : ∀ i, i < 160 → g i ≠ o) : ∃ r, sq_K l S g o mX6_handShare [.ref (g 141)] mX7_handShare [.ref (g 142)] (.double r) := by
  have hI := hZ.2.2.1.1
  refine ⟨sj_shr m, sq_K_r hZ ho hgo _ ⟨hZ.2.2.1, hZ.2.2.2.1, hZ.2.2.2.2.1⟩ (sj_Ctr_mono (ct_X6_handShare l hZ.1 hI) (fun v T h => ⟨h.1, by rw [h.2]; exact ⟨sq_fr_id, hZ.1⟩⟩)) (fun T hx hM => sj_Ctr_mono (ct_X7_handShare l hM.1 hI) ?_)⟩
  rintro v U ⟨rfl, f, rfl⟩
  have hn := sq_Z_inj hZ
  exact ⟨rfl, sq_xp_tr (sq_m_fi 0 0) (sq_m_ia f (sq_M_15 g)), sq_M_e hM (sq_me_tr (sq_me_f 0 (by omega) (by omega) (by omega)) (sq_me_a f (sj_mm_ne hn (Or.inl rfl) (Or.inl rfl)) (sj_mm_ne hn (Or.inr (Or.inl rfl)) (Or.inl rfl)) (sj_mm_ne hn (Or.inr (Or.inr (Or.inl rfl))) (Or.inl rfl)) (sj_mm_ne hn (Or.inr (Or.inr (Or.inr rfl))) (Or.inl rfl))))⟩
set_option maxHeartbeats 60000 in
theorem st_digest (hZ : sq_Z S g m hs ms p q Q n B) (ho : sj_ou S o) (hgo : ∀ i, i < 160 → g i ≠ o) : ∃ r, sq_K l S g o mX6_digest [.ref (g 141)] mX7_digest [.ref (g 142)] (.long r) := by
  have hI := hZ.2.2.1.1
  refine ⟨sj_dig m (nI q) B n, sq_K_r hZ ho hgo _ ⟨hZ.2.2.1, hZ.2.2.2.1, hZ.2.2.2.2.1⟩ (sj_Ctr_mono (ct_X6_digest l hZ.1 hI hZ.2.2.1.2) (fun v T h => ⟨h.1, by rw [h.2]; exact ⟨sq_fr_id, hZ.1⟩⟩)) (fun T hx hM => sj_Ctr_mono (ct_X7_digest l hM.1 hI hM.2.2.2.1 hM.2.2.2.2.1 hM.2.2.2.2.2) ?_)⟩
  rintro v U ⟨rfl, f, w, rfl⟩
  rw [hM.2.1.1]
  have hn := sq_Z_inj hZ
  exact ⟨rfl, sq_xp_tr (sq_xp_tr (sq_m_fi 0 0) (sq_m_ia f (sq_M_15 g))) (sq_m_fl w), sq_M_e hM (sq_me_tr (sq_me_tr (sq_me_f 0 (by omega) (by omega) (by omega)) (sq_me_a f (sj_mm_ne hn (Or.inl rfl) (Or.inl rfl)) (sj_mm_ne hn (Or.inr (Or.inl rfl)) (Or.inl rfl)) (sj_mm_ne hn (Or.inr (Or.inr (Or.inl rfl))) (Or.inl rfl)) (sj_mm_ne hn (Or.inr (Or.inr (Or.inr rfl))) (Or.inl rfl)))) (sq_me_l w))⟩
end
