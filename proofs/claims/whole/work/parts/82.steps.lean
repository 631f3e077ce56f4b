/-! CLASS AND REFERENCE: only the first 434 numbers count; the reference's ends -/
section
variable {m M : Nat → Int32} (h : ∀ j, j < 434 → M j = m j)
theorem sj_inv_434 (h : ∀ j, j < 434 → M j = m j) (hI : sj_inv m) : sj_inv M := sj_inv_cg (fun j hj _ => h j hj) hI
theorem sj_uc_434 (h : ∀ j, j < 434 → M j = m j) (hI : sj_inv m) (hu : sj_uc m) : sj_uc M := by
  have hN := hI.2.1.2
  exact sj_uc_cg (sj_inv_oav hI) (sj_inv_oav (sj_inv_434 h hI)) (congrArg sj_tn (h 10 (by omega))) (fun k w hk hw => h _ (by omega)) hu
theorem sq_T_434 (h : ∀ j, j < 434 → M j = m j) (hI : sj_inv m) {S : sj_St} {F : Nat → Prop} {D : Nat → Nat} (g : sq_T S F D m) : sq_T S F D M := by
  have hN := hI.2.1.2
  have hn := hI.1.2
  have h9 := h 9 (by omega)
  have h10 := h 10 (by omega)
  have hIM := sj_inv_434 h hI
  obtain ⟨gt, ⟨g1, g2, g3⟩, g4, g5, ⟨o1, o2, o3, o4⟩, g7⟩ := g
  refine ⟨gt, ⟨g1.trans h9.symm, g2.trans (h 12 (by omega)).symm, g3.trans (h 13 (by omega)).symm⟩, fun i hi => ?_, fun j hj => (g5 j hj).trans (h j (by omega)).symm, ⟨o1.trans h10.symm, o2.trans (h 11 (by omega)).symm, fun k hk => ?_, fun i hi => ?_⟩, fun i hi => ?_⟩
  · rw [h9] at hi
    exact (g4 i hi).trans (h _ (by omega)).symm
  · rw [h10] at hk
    obtain ⟨a, b, c⟩ := o3 k hk
    exact ⟨a.trans (h _ (by omega)).symm, b.trans (h _ (by omega)).symm, c.trans (h _ (by omega)).symm⟩
  · exact (o4 i hi).trans (sj_hH_cg (sj_inv_oav hI) (sj_inv_oav hIM) (congrArg sj_tn h10) (fun k w hk hw => h _ (by omega)) hi).symm
  · have hi2 := hi
    rw [h9] at hi2
    obtain ⟨a, ha, hs⟩ := g7 i hi2
    exact ⟨a, ha, sq_sm_cg (fun w h1 h2 => h _ (by omega)) (hI.2.2.2.1 i hi2) (hIM.2.2.2.1 i hi) hs⟩
end
theorem sq_W_434 {S : sj_St} {g : Nat → Nat} {m M : Nat → Int32} {hs : Bool} {ms : Nat → Int32} {p q : Nat} {Q : Nat → Nat → Int32} {n : Nat} {B : Nat → Int32} (h : ∀ j, j < 434 → M j = m j) (hI : sj_inv m) (hW : sq_W S g m hs ms p q Q n B) : sq_W S g M hs ms p q Q n B := by
  obtain ⟨c, ⟨t1, t2, t3⟩, r⟩ := hW
  exact ⟨c, ⟨sq_T_434 h hI t1, t2, t3⟩, r⟩
/-- the reference's own steps, as seen from the class -/
theorem sq_xp_Mi {S T U : sj_St} {g : Nat → Nat} (h : sq_xp (sq_Mc g) S T) (h2 : sq_xp (sq_Mc g) T U) : sq_xp (sq_Mc g) S U := sq_xp_tr h h2
theorem sq_M_h (g : Nat → Nat) : sq_Mc g (g 142) := ⟨142, by omega, by omega, rfl⟩
theorem sq_M_1 (g : Nat → Nat) : sq_Mc g (sq_b g 1) := ⟨143, by omega, by omega, rfl⟩
theorem sq_M_2 (g : Nat → Nat) : sq_Mc g (sq_b g 2) := ⟨144, by omega, by omega, rfl⟩
theorem sq_M_3 (g : Nat → Nat) : sq_Mc g (sq_b g 3) := ⟨145, by omega, by omega, rfl⟩
theorem sq_M_5 (g : Nat → Nat) : sq_Mc g (sq_b g 5) := ⟨146, by omega, by omega, rfl⟩
theorem sq_M_7 (g : Nat → Nat) : sq_Mc g (sq_b g 7) := ⟨147, by omega, by omega, rfl⟩
theorem sq_M_13 (g : Nat → Nat) : sq_Mc g (sq_b g 13) := ⟨148, by omega, by omega, rfl⟩
theorem sq_M_15 (g : Nat → Nat) : sq_Mc g (sq_b g 15) := ⟨149, by omega, by omega, rfl⟩
theorem sq_m_fi {S : sj_St} {g : Nat → Nat} (k : Nat) (v : Int32) : sq_xp (sq_Mc g) S (sj_wFi S (g 142) k v) := sq_xp_fr (sq_fr_fi k v (sq_M_h g))
theorem sq_m_ia {S : sj_St} {g : Nat → Nat} {a : Nat} (f : Nat → Int32) (h : sq_Mc g a) : sq_xp (sq_Mc g) S (sj_sIa S a f) := sq_xp_fr (sq_fr_ia f h)
theorem sq_m_fl {S : sj_St} {g : Nat → Nat} (v : Int64) : sq_xp (sq_Mc g) S (sj_wFl S (g 142) v) := fun a c hk => ⟨hk, fun hp => ⟨rfl, rfl, rfl, rfl, rfl, sj_up_ne _ _ (fun e => hp (e ▸ sq_M_h g))⟩⟩
/-- what of the reference counts between two actions -/
def sq_me (S T : sj_St) (g : Nat → Nat) : Prop := (T.1 = S.1 ∧ T.2.1 = S.2.1 ∧ T.2.2.1 = S.2.2.1) ∧ (sj_fi T (g 142) 4 = sj_fi S (g 142) 4 ∧ sj_fi T (g 142) 6 = sj_fi S (g 142) 6 ∧ sj_fi T (g 142) 8 = sj_fi S (g 142) 8) ∧ sj_ia T (sq_b g 1) = sj_ia S (sq_b g 1) ∧ sj_ia T (sq_b g 3) = sj_ia S (sq_b g 3) ∧ sj_ia T (sq_b g 5) = sj_ia S (sq_b g 5) ∧ sj_ia T (sq_b g 7) = sj_ia S (sq_b g 7)
theorem sj_mo_e {S T : sj_St} {h : Nat} {b : Nat → Nat} (hm : sj_mo S h b) (e : T.1 = S.1 ∧ T.2.1 = S.2.1 ∧ T.2.2.1 = S.2.2.1) : sj_mo T h b := by
  obtain ⟨e1, e2, e3⟩ := e
  unfold sj_mo sj_kd sj_rf sj_il at *
  rw [e1, e2, e3]
  exact hm
theorem sq_M_e {S T : sj_St} {g : Nat → Nat} {m : Nat → Int32} {hs : Bool} {ms : Nat → Int32} {q : Nat} {Q : Nat → Nat → Int32} {n : Nat} {B : Nat → Int32} (hM : sq_M S g m hs ms q Q n B) (e : sq_me S T g) : sq_M T g m hs ms q Q n B := by
  obtain ⟨⟨h0, h1⟩, ⟨f4, f4'⟩, ⟨f6, f6'⟩, f8, f60, e7⟩ := hM
  obtain ⟨e0, ⟨x4, x6, x8⟩, y1, y3, y5, y7⟩ := e
  refine ⟨⟨sj_mo_e h0 e0, y1.trans h1⟩, ⟨x4.trans f4, ?_⟩, ⟨x6.trans f6, ?_⟩, x8.trans f8, f60, y7.trans e7⟩
  · have y3' : sj_ia T (g 145) = sj_ia S (g 145) := y3
    rw [y3']
    exact f4'
  · have y5' : sj_ia T (g 146) = sj_ia S (g 146) := y5
    rw [y5']
    exact f6'
theorem sq_me_tr {S T U : sj_St} {g : Nat → Nat} (a : sq_me S T g) (b : sq_me T U g) : sq_me S U g := by
  obtain ⟨⟨a1, a2, a3⟩, ⟨a4, a5, a6⟩, a7, a8, a9, a10⟩ := a
  obtain ⟨⟨b1, b2, b3⟩, ⟨b4, b5, b6⟩, b7, b8, b9, b10⟩ := b
  exact ⟨⟨b1.trans a1, b2.trans a2, b3.trans a3⟩, ⟨b4.trans a4, b5.trans a5, b6.trans a6⟩, b7.trans a7, b8.trans a8, b9.trans a9, b10.trans a10⟩
theorem sq_me_f {S : sj_St} {g : Nat → Nat} {k : Nat} (v : Int32) (h4 : k ≠ 4) (h6 : k ≠ 6) (h8 : k ≠ 8) : sq_me S (sj_wFi S (g 142) k v) g := ⟨⟨rfl, rfl, rfl⟩, ⟨sj_fi_wFi_k S (g 142) v h4.symm, sj_fi_wFi_k S (g 142) v h6.symm, sj_fi_wFi_k S (g 142) v h8.symm⟩, rfl, rfl, rfl, rfl⟩
theorem sq_me_a {S : sj_St} {g : Nat → Nat} {a : Nat} (f : Nat → Int32) (h1 : sq_b g 1 ≠ a) (h3 : sq_b g 3 ≠ a) (h5 : sq_b g 5 ≠ a) (h7 : sq_b g 7 ≠ a) : sq_me S (sj_sIa S a f) g := ⟨⟨rfl, rfl, rfl⟩, ⟨rfl, rfl, rfl⟩, sj_up_ne _ _ h1, sj_up_ne _ _ h3, sj_up_ne _ _ h5, sj_up_ne _ _ h7⟩
theorem sq_me_l {S : sj_St} {g : Nat → Nat} (v : Int64) : sq_me S (sj_wFl S (g 142) v) g := ⟨⟨rfl, rfl, rfl⟩, ⟨rfl, rfl, rfl⟩, rfl, rfl, rfl, rfl⟩
