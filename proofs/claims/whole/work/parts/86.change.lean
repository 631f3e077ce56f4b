/-! ONE ACTION OF BOTH: what changes -/
theorem sq_q6_qn {q : Nat} (hq : q ≤ 6) : sj_qn q + 1 = sq_q6 q := by
  unfold sj_qn sq_q6
  by_cases h : q = 6
  · rw [if_pos h, if_neg (by omega)]
    omega
  · rw [if_neg h, if_pos (by omega)]
theorem sj_sv_rows {q : Nat} (hq : q ≤ 6) {m f : Nat → Int32} {Q : Nat → Nat → Int32} (h : ∀ j, j < q → ∀ a, a < 434 → f (434 * (q - 1 - j) + a) = Q j a) : ∀ j, j < sq_q6 q → ∀ a, a < 434 → sj_sv q m f (434 * (sq_q6 q - 1 - j) + a) = sq_Qs m Q j a := by
  intro j hj a ha
  unfold sq_q6 at hj ⊢
  unfold sj_sv sj_qn sj_cpo sj_sh
  by_cases h6 : q = 6
  · subst h6
    rw [if_neg (by omega)] at hj
    rw [if_neg (show ¬ 6 < 6 by omega), if_pos rfl, if_pos rfl]
    cases j with
    | zero =>
      rw [if_pos (by omega)]
      exact congrArg m (by omega)
    | succ i =>
      rw [if_neg (by omega)]
      show (if 434 * (6 - 1 - (i + 1)) + a < 2170 then f (434 * (6 - 1 - (i + 1)) + a + 434) else f (434 * (6 - 1 - (i + 1)) + a)) = Q i a
      rw [if_pos (by omega), show 434 * (6 - 1 - (i + 1)) + a + 434 = 434 * (6 - 1 - i) + a by omega]
      exact h i (by omega) a ha
  · rw [if_pos (by omega)] at hj
    rw [if_pos (show q < 6 by omega), if_neg h6, if_neg h6]
    cases j with
    | zero =>
      rw [if_pos (by omega)]
      exact congrArg m (by omega)
    | succ i =>
      rw [if_neg (by omega), show 434 * (q + 1 - 1 - (i + 1)) + a = 434 * (q - 1 - i) + a by omega]
      exact h i (by omega) a ha
/-- the reference behind a save -/
theorem sq_M_sv {S U : sj_St} {g : Nat → Nat} {m M : Nat → Int32} {hs : Bool} {ms : Nat → Int32} {q : Nat} {Q : Nat → Nat → Int32} {n n' : Nat} {B B' : Nat → Int32} (hM : sq_M S g m hs ms q Q n B) (hq : q ≤ 6) (e0 : U.1 = S.1 ∧ U.2.1 = S.2.1 ∧ U.2.2.1 = S.2.2.1) (e4 : sj_fi U (g 142) 4 = nI (sj_qn q + 1)) (e6 : sj_fi U (g 142) 6 = sj_fi S (g 142) 6) (e8 : sj_fi U (g 142) 8 = nI n') (hn' : n' ≤ 60) (e1 : sj_ia U (sq_b g 1) = M) (e3 : sj_ia U (sq_b g 3) = sj_sv q m (sj_ia S (sq_b g 3))) (e5 : sj_ia U (sq_b g 5) = sj_ia S (sq_b g 5)) (e7 : sj_ia U (sq_b g 7) = B') : sq_M U g M hs ms (sq_q6 q) (sq_Qs m Q) n' B' := by
  obtain ⟨⟨h0, h1⟩, ⟨f4, f4'⟩, ⟨f6, f6'⟩, f8, f60, e7'⟩ := hM
  refine ⟨⟨sj_mo_e h0 e0, e1⟩, ⟨e4.trans (congrArg nI (sq_q6_qn hq)), ?_⟩, ⟨e6.trans f6, ?_⟩, e8, hn', e7⟩
  · have y3 : sj_ia U (g 145) = sj_sv q m (sj_ia S (g 145)) := e3
    rw [y3]
    exact sj_sv_rows hq f4'
  · have y5 : sj_ia U (g 146) = sj_ia S (g 146) := e5
    rw [y5]
    exact f6'
section
variable {l : Launch} {S : sj_St} {g : Nat → Nat} {m : Nat → Int32} {hs : Bool} {ms : Nat → Int32} {p q : Nat} {Q : Nat → Nat → Int32} {n : Nat} {B : Nat → Int32} {o : Nat}
theorem sq_Z_q (hZ : sq_Z S g m hs ms p q Q n B) : q ≤ 6 := hZ.1.2.2.2.1.2.2.2.1
theorem sq_Z_Qs (hZ : sq_Z S g m hs ms p q Q n B) : ∀ j, j < sq_q6 q → sj_inv (sq_Qs m Q j) ∧ sj_uc (sq_Qs m Q j) := by
  intro j hj
  cases j with
  | zero => exact hZ.2.2.1
  | succ i =>
    refine hZ.2.2.2.2.1 i ?_
    have hq := sq_Z_q hZ
    unfold sq_q6 at hj
    by_cases h6 : q < 6
    · rw [if_pos h6] at hj
      omega
    · rw [if_neg h6] at hj
      omega
/-- what throws -/
theorem sq_J_x (hZ : sq_Z S g m hs ms p q Q n B) (ho : sj_ou S o) (hgo : ∀ i, i < 160 → g i ≠ o) {ML M7 : sj_M} {hh : List (Nat × Nat × Nat × Nat)} {avL av7 : List Value} (t : Int32) (ht : ¬ t = 0) (hL : sj_CtW l ML hh avL S (fun v T => v = some (.int t) ∧ sq_fr (sq_Cl g) S T ∧ sq_W T g m hs ms p q Q n B)) (h7 : ∀ T, sq_xp (sq_Cl g) S T → sq_M T g m hs ms q Q n B → sj_Ctr l M7 av7 T (fun v U => v = some (.int 0) ∧ sj_fi U (g 142) 0 = t ∧ sq_xp (sq_Mc g) T U ∧ sq_me T U g)) : sq_J l S g o ML hh avL M7 av7 := by
  refine ⟨t, fun T => sq_fr (sq_Cl g) S T ∧ sq_W T g m hs ms p q Q n B, hL, ?_⟩
  rintro T ⟨hf, hW⟩
  have hZ1 := sq_Z_cl hZ (sq_xp_fr hf) hW
  refine ⟨hZ1.2.1.1.1.1, sj_Ctr_mono (h7 T (sq_xp_fr hf) hZ1.2.1) ?_⟩
  rintro v U ⟨rfl, e0, hx, he⟩
  exact ⟨0, rfl, e0, fun e => absurd e ht, ⟨_, _, _, _, _, _, _, _, sq_Z_rf hZ1 hx he⟩, sj_ou_xp hx (sj_ou_xp (sq_xp_fr hf) ho (sq_Cl_o hgo)) (sq_Mc_o hgo)⟩
theorem sq_J_x1 (hZ : sq_Z S g m hs ms p q Q n B) (ho : sj_ou S o) (hgo : ∀ i, i < 160 → g i ≠ o) {ML M7 : sj_M} {hh : List (Nat × Nat × Nat × Nat)} {avL av7 : List Value} (t : Int32) (ht : ¬ t = 0) (hL : sj_CtW l ML hh avL S (fun v T => v = some (.int t) ∧ sq_fr (sq_Cl g) S T ∧ sq_W T g m hs ms p q Q n B)) (h7 : ∀ T, sq_M T g m hs ms q Q n B → sj_Ctr l M7 av7 T (sj_eq (some (.int 0)) (sj_wFi T (g 142) 0 t))) : sq_J l S g o ML hh avL M7 av7 := by
  refine sq_J_x hZ ho hgo t ht hL (fun T hx hM => sj_Ctr_mono (h7 T hM) ?_)
  rintro v U ⟨rfl, rfl⟩
  exact ⟨rfl, sj_fi_wFi T (g 142) 0 t, sq_m_fi 0 t, sq_me_f t (by omega) (by omega) (by omega)⟩
/-- what returns -/
theorem sq_J_r (hZ : sq_Z S g m hs ms p q Q n B) (ho : sj_ou S o) (hgo : ∀ i, i < 160 → g i ≠ o) {ML M7 : sj_M} {hh : List (Nat × Nat × Nat × Nat)} {avL av7 : List Value} (r : Int32) {M : Nat → Int32} {hs' : Bool} {ms' : Nat → Int32} {p' q' : Nat} {Q' : Nat → Nat → Int32} {n' : Nat} {B' : Nat → Int32} (hin : (sj_inv M ∧ sj_uc M) ∧ (hs' = true → sj_inv ms' ∧ sj_uc ms') ∧ ∀ j, j < q' → sj_inv (Q' j) ∧ sj_uc (Q' j)) (hL : sj_CtW l ML hh avL S (fun v T => v = some (.int 0) ∧ ∃ T0, (sq_xp (sq_Cl g) S T0 ∧ sq_W T0 g M hs' ms' p' q' Q' n' B') ∧ T = sj_wLa T0 o 0 (r.toInt64))) (h7 : ∀ T, sq_xp (sq_Cl g) S T → sq_M T g m hs ms q Q n B → sj_Ctr l M7 av7 T (fun v U => v = some (.int r) ∧ sj_fi U (g 142) 0 = 0 ∧ sj_la U = sj_la T ∧ sq_xp (sq_Mc g) T U ∧ sq_M U g M hs' ms' q' Q' n' B')) : sq_J l S g o ML hh avL M7 av7 := by
  refine ⟨0, fun T => ∃ T0, (sq_xp (sq_Cl g) S T0 ∧ sq_W T0 g M hs' ms' p' q' Q' n' B') ∧ T = sj_wLa T0 o 0 (r.toInt64), hL, ?_⟩
  rintro T ⟨T0, ⟨hx0, hW0⟩, rfl⟩
  have hx : sq_xp (sq_Cl g) S (sj_wLa T0 o 0 (r.toInt64)) := sq_xp_tr hx0 sq_xp_la
  have hM := sq_M_xpC (sq_Z_inj hZ) hx hZ.2.1
  refine ⟨hM.1.1.1, sj_Ctr_mono (h7 _ hx hM) ?_⟩
  rintro v U ⟨rfl, e0, ela, hxU, hMU⟩
  have hWU := sq_W_xpM hxU (sq_Mc_2 hM.1) (sq_W_la hW0)
  refine ⟨r, rfl, e0, fun _ => ?_, ⟨M, hs', ms', p', q', Q', n', B', hWU, hMU, hin.1, hin.2.1, hin.2.2, fun i hi => (hZ.2.2.2.2.2 i hi).imp (fun _ hc => sq_x_k hxU (sq_x_k hx hc))⟩, sj_ou_xp hxU (sj_ou_xp hx ho (sq_Cl_o hgo)) (sq_Mc_o hgo)⟩
  rw [ela]
  exact sj_la_w _ _ _ _
/-- the wrapper's end, over the class's -/
theorem sq_ou_fr (hgo : ∀ i, i < 160 → g i ≠ o) (ho : sj_ou S o) {P : sj_St → Prop} : ∀ T, (sq_fr (sq_Cl g) S T ∧ P T) → sj_ou T o := fun T h => sj_ou_xp (sq_xp_fr h.1) ho (sq_Cl_o hgo)
theorem sq_ou_xp (hgo : ∀ i, i < 160 → g i ≠ o) (ho : sj_ou S o) {P : sj_St → Prop} : ∀ T, (sq_xp (sq_Cl g) S T ∧ P T) → sj_ou T o := fun T h => sj_ou_xp h.1 ho (sq_Cl_o hgo)
theorem sq_CtW_fr {ML : sj_M} {hh : List (Nat × Nat × Nat × Nat)} {avL : List Value} {r : Int32} {P : sj_St → Prop} (hL : sj_CtW l ML hh avL S (fun v T => v = some (.int 0) ∧ ∃ T0, (sq_fr (sq_Cl g) S T0 ∧ P T0) ∧ T = sj_wLa T0 o 0 (r.toInt64))) : sj_CtW l ML hh avL S (fun v T => v = some (.int 0) ∧ ∃ T0, (sq_xp (sq_Cl g) S T0 ∧ P T0) ∧ T = sj_wLa T0 o 0 (r.toInt64)) := sj_CtW_mono hL (fun v T hT => ⟨hT.1, hT.2.imp (fun T0 h => ⟨⟨sq_xp_fr h.1.1, h.1.2⟩, h.2⟩)⟩)
/-- a save and a new row of numbers -/
theorem sq_svA (hZ : sq_Z S g m hs ms p q Q n B) {T : sj_St} (hM : sq_M T g m hs ms q Q n B) (M : Nat → Int32) : sj_fi (sj_sIa (sj_svS T (g 142) (sq_b g) q m) (sq_b g 1) M) (g 142) 0 = 0 ∧ sj_la (sj_sIa (sj_svS T (g 142) (sq_b g) q m) (sq_b g 1) M) = sj_la T ∧ sq_xp (sq_Mc g) T (sj_sIa (sj_svS T (g 142) (sq_b g) q m) (sq_b g 1) M) ∧ sq_M (sj_sIa (sj_svS T (g 142) (sq_b g) q m) (sq_b g 1) M) g M hs ms (sq_q6 q) (sq_Qs m Q) n B := by
  have hi := sq_Z_inj hZ
  have n31 : sq_b g 3 ≠ sq_b g 1 := fun e => absurd (hi _ _ (by decide) (by decide) e) (by decide)
  have n51 : sq_b g 5 ≠ sq_b g 1 := fun e => absurd (hi _ _ (by decide) (by decide) e) (by decide)
  have n71 : sq_b g 7 ≠ sq_b g 1 := fun e => absurd (hi _ _ (by decide) (by decide) e) (by decide)
  have n53 : sq_b g 5 ≠ sq_b g 3 := fun e => absurd (hi _ _ (by decide) (by decide) e) (by decide)
  have n73 : sq_b g 7 ≠ sq_b g 3 := fun e => absurd (hi _ _ (by decide) (by decide) e) (by decide)
  refine ⟨?_, rfl, sq_xp_tr (sq_xp_tr (sq_xp_tr (sq_m_fi 0 0) (sq_m_ia _ (sq_M_3 g))) (sq_m_fi 4 _)) (sq_m_ia M (sq_M_1 g)), ?_⟩
  · exact (sj_fi_wFi_k _ (g 142) (j := 0) (k := 4) _ (by omega)).trans (sj_fi_wFi T (g 142) 0 0)
  · refine sq_M_sv hM (sq_Z_q hZ) ⟨rfl, rfl, rfl⟩ (sj_fi_wFi _ (g 142) 4 _) ?_ ?_ hM.2.2.2.2.1 (sj_ia_sIa _ _ _) ?_ ?_ ?_
    · exact (sj_fi_wFi_k _ (g 142) (j := 6) (k := 4) _ (by omega)).trans (sj_fi_wFi_k T (g 142) 0 (by omega))
    · exact ((sj_fi_wFi_k _ (g 142) (j := 8) (k := 4) _ (by omega)).trans (sj_fi_wFi_k T (g 142) 0 (by omega))).trans hM.2.2.2.1
    · exact (sj_ia_sIa_ne _ M n31).trans (sj_ia_sIa _ _ _)
    · exact (sj_ia_sIa_ne _ M n51).trans (sj_ia_sIa_ne _ _ n53)
    · exact ((sj_ia_sIa_ne _ M n71).trans (sj_ia_sIa_ne _ _ n73)).trans hM.2.2.2.2.2
end
