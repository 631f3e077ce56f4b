/-! THE SAME: what a table tells behind each change -/
theorem sq_oaf {m : Nat → Int32} (k : Nat) : (fun k => sj_oa m k 0) k = sj_oa m k 0 ∧ (fun k => sj_oa m k 1) k = sj_oa m k 1 ∧ (fun k => sj_oa m k 2) k = sj_oa m k 2 := ⟨rfl, rfl, rfl⟩
/-- hands are told by the oaths alone -/
theorem sj_hH_cg {m M : Nat → Int32} (hv : sj_oav m) (hV : sj_oav M) (hN : sj_tn (M 10) = sj_tn (m 10)) (ho : ∀ k w, k < sj_tn (m 10) → w < 3 → sj_oa M k w = sj_oa m k w) {i : Nat} (hi : i < 8) : sj_hH M (-1) i = sj_hH m (-1) i := by
  unfold sj_hH
  rw [hN, ← sq_hn_hnd hv (f1 := fun k => sj_oa m k 0) (f2 := fun k => sj_oa m k 1) (f3 := fun k => sj_oa m k 2) (fun k _ => sq_oaf k) _ (Nat.le_refl _) i hi]
  exact (sq_hn_hnd hV (f1 := fun k => sj_oa m k 0) (f2 := fun k => sj_oa m k 1) (f3 := fun k => sj_oa m k 2) (fun k hk => by
    rw [hN] at hk
    exact ⟨(ho k 0 hk (by omega)).symm, (ho k 1 hk (by omega)).symm, (ho k 2 hk (by omega)).symm⟩) _ (by omega) i hi).symm
theorem sq_oR_cg {c : sq_C} {m M : Nat → Int32} (hv : sj_oav m) (hV : sj_oav M) (h10 : M 10 = m 10) (h11 : M 11 = m 11) (ho : ∀ k w, k < sj_tn (m 10) → w < 3 → sj_oa M k w = sj_oa m k w) (h : sq_oR c m) : sq_oR c M := by
  have hN : sj_tn (M 10) = sj_tn (m 10) := congrArg sj_tn h10
  refine ⟨h.1.trans h10.symm, h.2.1.trans h11.symm, fun k hk => ?_, fun i hi => (h.2.2.2 i hi).trans (sj_hH_cg hv hV hN ho hi).symm⟩
  rw [hN] at hk
  rw [ho k 0 hk (by omega), ho k 1 hk (by omega), ho k 2 hk (by omega)]
  exact h.2.2.1 k hk
theorem sj_uc_cg {m M : Nat → Int32} (hv : sj_oav m) (hV : sj_oav M) (hN : sj_tn (M 10) = sj_tn (m 10)) (ho : ∀ k w, k < sj_tn (m 10) → w < 3 → sj_oa M k w = sj_oa m k w) (h : sj_uc m) : sj_uc M := by
  intro k hk h2
  rw [hN] at hk
  have hn8 := hv.1.2
  obtain ⟨⟨_, h0⟩, ⟨_, h1⟩, _⟩ := hv.2.2 k hk
  rw [ho k 2 hk (by omega)] at h2
  rw [ho k 0 hk (by omega), ho k 1 hk (by omega), sj_hH_cg hv hV hN ho (by omega), sj_hH_cg hv hV hN ho (by omega)]
  exact h k hk h2
/-- new oaths, their hands reckoned anew -/
theorem sq_oR_new {M : Nat → Int32} (hV : sj_oav M) {N : Nat} {w : Int32} {f1 f2 f3 f7 : Nat → Int32} (hN : sj_tn (M 10) = N) (h11 : w = M 11) (hf : ∀ k, k < N → f1 k = sj_oa M k 0 ∧ f2 k = sj_oa M k 1 ∧ f3 k = sj_oa M k 2) : sq_oR (nI N, w, f1, f2, f3, sj_cp 8 (sq_hn f1 f2 f3 N) f7) M := by
  subst hN
  refine ⟨hV.2.1.1.symm, h11, hf, fun i hi => ?_⟩
  show sj_cp 8 (sq_hn f1 f2 f3 (sj_tn (M 10))) f7 i = _
  exact (if_pos hi).trans (sq_hn_hnd hV hf _ (Nat.le_refl _) i hi)
theorem sq_or_os {S : sj_St} {o : Nat} {d : Nat → Nat} (h : sq_ol S o d) (c : sq_C) : sq_or (sq_os S o d c) o d = c := by
  obtain ⟨n, w, f1, f2, f3, f7⟩ := c
  unfold sq_or
  rw [sq_f0, sq_f1, sq_r2 h, sq_r4 h, sq_r6 h, sq_r8]
theorem sq_T_P {S T : sj_St} {F : Nat → Prop} {D : Nat → Nat} {m : Nat → Int32} (h : sq_T S F D m) (hF : ∀ a, sq_P D a → F a) (hfr : sq_fr (sq_P D) S T) {M : Nat → Int32} (e3 : sj_fi T (D 0) 3 = M 9) (e6 : sj_fi T (D 0) 6 = M 12) (e7 : sj_fi T (D 0) 7 = M 13) (eA : ∀ i, i < sj_tn (M 9) → sj_ia T (D 4) i = sj_of M i 0) (eS : ∀ j, j < 9 → sj_ia T (D 15) j = M j) (eO : sq_oR (sq_or T (D 5) (fun i => D (5 + i))) M) (eR : ∀ i, i < sj_tn (M 9) → ∃ a, sj_ra T (D 1) i = some a ∧ sq_sm S F M i a) : sq_T T F D M :=
  ⟨sq_tl_fr hfr h.1, ⟨e3, e6, e7⟩, eA, eS, eO, fun i hi => (eR i hi).imp (fun _ ha => ⟨ha.1, sq_sm_fr hfr hF ha.2⟩)⟩
section
variable {S : sj_St} {F : Nat → Prop} {D : Nat → Nat} {m : Nat → Int32}
theorem sq_D_ne (h : sq_tl S D) {i j : Nat} (hij : i ≠ j) (hi : i < 16 := by omega) (hj : j < 16 := by omega) : D i ≠ D j := fun e => hij (h.2.2.2.2.2.2 i j hi hj e)
theorem sq_or_ia (h : sq_tl S D) {q : Nat} (hq : q = 4 ∨ q = 15) (f : Nat → Int32) : sq_or (sj_sIa S (D q) f) (D 5) (fun i => D (5 + i)) = sq_or S (D 5) (fun i => D (5 + i)) := by
  unfold sq_or
  rw [sj_ia_sIa_ne _ _ (sq_D_ne h (i := 5 + 2) (j := q) (by omega)), sj_ia_sIa_ne _ _ (sq_D_ne h (i := 5 + 4) (j := q) (by omega)), sj_ia_sIa_ne _ _ (sq_D_ne h (i := 5 + 6) (j := q) (by omega)), sj_ia_sIa_ne _ _ (sq_D_ne h (i := 5 + 8) (j := q) (by omega))]
  rfl
theorem sq_or_fi (h : sq_tl S D) (k : Nat) (v : Int32) : sq_or (sj_wFi S (D 0) k v) (D 5) (fun i => D (5 + i)) = sq_or S (D 5) (fun i => D (5 + i)) := by
  unfold sq_or
  rw [sj_fi_wFi_a _ _ _ _ (sq_D_ne h (i := 5) (j := 0) (by omega)), sj_fi_wFi_a _ _ _ _ (sq_D_ne h (i := 5) (j := 0) (by omega))]
  rfl
theorem sq_os_o (h : sq_tl S D) (c : sq_C) : (∀ k, sj_fi (sq_os S (D 5) (fun i => D (5 + i)) c) (D 0) k = sj_fi S (D 0) k) ∧ sj_ia (sq_os S (D 5) (fun i => D (5 + i)) c) (D 4) = sj_ia S (D 4) ∧ sj_ia (sq_os S (D 5) (fun i => D (5 + i)) c) (D 15) = sj_ia S (D 15) ∧ sj_ra (sq_os S (D 5) (fun i => D (5 + i)) c) (D 1) = sj_ra S (D 1) := by
  have ne : ∀ i j, i < 16 → j < 16 → i ≠ j → D i ≠ D j := fun i j hi hj hij e => hij (h.2.2.2.2.2.2 i j hi hj e)
  exact ⟨fun k => (sj_fi_wFi_a _ 1 k _ (ne 0 5 (by omega) (by omega) (by omega))).trans (sj_fi_wFi_a _ 0 k _ (ne 0 5 (by omega) (by omega) (by omega))),
    (sj_ia_sIa_ne _ _ (ne 4 (5 + 8) (by omega) (by omega) (by omega))).trans ((sj_ia_sIa_ne _ _ (ne 4 (5 + 6) (by omega) (by omega) (by omega))).trans ((sj_ia_sIa_ne _ _ (ne 4 (5 + 4) (by omega) (by omega) (by omega))).trans (sj_ia_sIa_ne _ _ (ne 4 (5 + 2) (by omega) (by omega) (by omega))))),
    (sj_ia_sIa_ne _ _ (ne 15 (5 + 8) (by omega) (by omega) (by omega))).trans ((sj_ia_sIa_ne _ _ (ne 15 (5 + 6) (by omega) (by omega) (by omega))).trans ((sj_ia_sIa_ne _ _ (ne 15 (5 + 4) (by omega) (by omega) (by omega))).trans (sj_ia_sIa_ne _ _ (ne 15 (5 + 2) (by omega) (by omega) (by omega))))), rfl⟩
/-- a stop noted -/
theorem sq_T_stop (h : sq_T S F D m) (hF : ∀ a, sq_P D a → F a) (hI : sj_inv m) (v w : Int32) : sq_T (sj_wFi (sj_wFi S (D 0) 6 v) (D 0) 7 w) F D (upd (upd m 12 v) 13 w) := by
  have lo : ∀ j, j ≠ 12 → j ≠ 13 → upd (upd m 12 v) 13 w j = m j := fun j h1 h2 => (sj_upd_ne _ _ h2).trans (sj_upd_ne _ _ h1)
  have hIM : sj_inv (upd (upd m 12 v) 13 w) := sj_inv_cg (fun j _ hj => lo j (by omega) (by omega)) hI
  obtain ⟨h1, ⟨h3, h6, h7⟩, hA, hE, hO, hR⟩ := id h
  have e9 : upd (upd m 12 v) 13 w 9 = m 9 := lo 9 (by omega) (by omega)
  refine sq_T_P h hF (sq_fr_tr (sq_fr_fi 6 _ (sq_Pi D)) (sq_fr_fi 7 _ (sq_Pi D))) ?_ ?_ ?_ (fun i hi => ?_) (fun j hj => ?_) ?_ (fun i hi => ?_)
  · rw [sj_fi_wFi_k _ _ _ (by omega), sj_fi_wFi_k _ _ _ (by omega), e9]
    exact h3
  · rw [sj_fi_wFi_k _ _ _ (by omega), sj_fi_wFi]
    exact ((sj_upd_ne _ _ (by omega)).trans (sj_upd_self _ _ _)).symm
  · rw [sj_fi_wFi]
    exact (sj_upd_self _ _ _).symm
  · rw [e9] at hi
    exact (hA i hi).trans (lo _ (by omega) (by omega)).symm
  · exact (hE j hj).trans (lo j (by omega) (by omega)).symm
  · rw [sq_or_fi (S := sj_wFi S (D 0) 6 v) h1, sq_or_fi h1]
    exact sq_oR_cg (sj_inv_oav hI) (sj_inv_oav hIM) (lo 10 (by omega) (by omega)) (lo 11 (by omega) (by omega)) (fun k w _ _ => lo _ (by omega) (by omega)) hO
  · rw [e9] at hi
    obtain ⟨a, ha, hs⟩ := hR i hi
    exact ⟨a, ha, sq_sm_cg (fun w _ _ => lo _ (by omega) (by omega)) (hI.2.2.2.1 i hi) (hIM.2.2.2.1 i (by rw [e9]; exact hi)) hs⟩
/-- a setting -/
theorem sq_T_set (h : sq_T S F D m) (hF : ∀ a, sq_P D a → F a) (hI : sj_inv m) {s : Nat} {v : Int32} (hs : s < 9) (hIM : sj_inv (upd m s v)) : sq_T (sj_sIa S (D 15) (upd (sj_ia S (D 15)) s v)) F D (upd m s v) := by
  have lo : ∀ j, j ≠ s → upd m s v j = m j := fun j h1 => sj_upd_ne _ _ h1
  obtain ⟨h1, ⟨h3, h6, h7⟩, hA, hE, hO, hR⟩ := id h
  have e9 : upd m s v 9 = m 9 := lo 9 (by omega)
  refine sq_T_P h hF (sq_fr_ia _ (sq_Pi D)) (h3.trans e9.symm) (h6.trans (lo 12 (by omega)).symm) (h7.trans (lo 13 (by omega)).symm) (fun i hi => ?_) (fun j hj => ?_) ?_ (fun i hi => ?_)
  · rw [e9] at hi
    rw [sj_ia_sIa_ne _ _ (sq_D_ne h1 (i := 4) (j := 15) (by omega))]
    exact (hA i hi).trans (lo _ (by omega)).symm
  · rw [sj_ia_sIa]
    by_cases e : j = s
    · rw [e, sj_upd_self, sj_upd_self]
    · rw [sj_upd_ne _ _ e, sj_upd_ne _ _ e]
      exact hE j hj
  · rw [sq_or_ia h1 (Or.inr rfl)]
    exact sq_oR_cg (sj_inv_oav hI) (sj_inv_oav hIM) (lo 10 (by omega)) (lo 11 (by omega)) (fun k w _ _ => lo _ (by omega)) hO
  · rw [e9] at hi
    obtain ⟨a, ha, hs9⟩ := hR i hi
    exact ⟨a, ha, sq_sm_cg (fun w _ _ => lo _ (by omega)) (hI.2.2.2.1 i hi) (hIM.2.2.2.1 i (by rw [e9]; exact hi)) hs9⟩
/-- years -/
theorem sq_T_pas (h : sq_T S F D m) (hF : ∀ a, sq_P D a → F a) (hI : sj_inv m) {y : Int32} (hIM : sj_inv (sj_pas m y (sj_tn (m 9)))) : sq_T (sj_sIa S (D 4) (sq_gr m y (sj_tn (m 9)) (sj_ia S (D 4)))) F D (sj_pas m y (sj_tn (m 9))) := by
  have lo : ∀ j, j < 98 → sj_pas m y (sj_tn (m 9)) j = m j := fun j h1 => sj_pas_lo m y h1 _
  obtain ⟨h1, ⟨h3, h6, h7⟩, hA, hE, hO, hR⟩ := id h
  have e9 : sj_pas m y (sj_tn (m 9)) 9 = m 9 := lo 9 (by omega)
  refine sq_T_P h hF (sq_fr_ia _ (sq_Pi D)) (h3.trans e9.symm) (h6.trans (lo 12 (by omega)).symm) (h7.trans (lo 13 (by omega)).symm) (fun i hi => ?_) (fun j hj => ?_) ?_ (fun i hi => ?_)
  · rw [e9] at hi
    rw [sj_ia_sIa, sj_pas_at m y _ hi]
    exact if_pos hi
  · rw [sj_ia_sIa_ne _ _ (sq_D_ne h1 (i := 15) (j := 4) (by omega))]
    exact (hE j hj).trans (lo j (by omega)).symm
  · rw [sq_or_ia h1 (Or.inl rfl)]
    have hN := hI.2.1.2
    exact sq_oR_cg (sj_inv_oav hI) (sj_inv_oav hIM) (lo 10 (by omega)) (lo 11 (by omega)) (fun k w _ _ => lo _ (by omega)) hO
  · rw [e9] at hi
    obtain ⟨a, ha, hs9⟩ := hR i hi
    exact ⟨a, ha, sq_sm_cg (fun w h1 h2 => sj_pas_of m y _ i w h1 h2) (hI.2.2.2.1 i hi) (hIM.2.2.2.1 i (by rw [e9]; exact hi)) hs9⟩
/-- an oath added -/
theorem sq_T_sw (h : sq_T S F D m) (hF : ∀ a, sq_P D a → F a) (hI : sj_inv m) {i e : Nat} {like : Bool} (h28 : sj_tn (m 10) < 28) (hIM : sj_inv (sj_sw m i e like)) : sq_T (sq_os S (D 5) (fun i => D (5 + i)) (nI (sj_tn (m 10) + 1), sj_fi S (D 5) 1 + 1, upd (sj_ia S (D 7)) (sj_tn (m 10)) (nI i), upd (sj_ia S (D 9)) (sj_tn (m 10)) (nI e), upd (sj_ia S (D 11)) (sj_tn (m 10)) (sj_bi like), sj_cp 8 (sq_hn (upd (sj_ia S (D 7)) (sj_tn (m 10)) (nI i)) (upd (sj_ia S (D 9)) (sj_tn (m 10)) (nI e)) (upd (sj_ia S (D 11)) (sj_tn (m 10)) (sj_bi like)) (sj_tn (m 10) + 1)) (sj_ia S (D 13)))) F D (sj_sw m i e like) := by
  obtain ⟨h1, ⟨h3, h6, h7⟩, hA, hE, hO, hR⟩ := id h
  have hol := h1.2.2.2.2.1.2
  have lo : ∀ j, j ≠ 10 → j ≠ 11 → (j < 14 ∨ 98 ≤ j) → sj_sw m i e like j = m j := fun j a b c => sj_sw_o m i e like a b (by omega)
  have e9 : sj_sw m i e like 9 = m 9 := lo 9 (by omega) (by omega) (by omega)
  have e10 : sj_sw m i e like 10 = nI (sj_tn (m 10) + 1) := by
    rw [sj_sw_10]
    exact (congrArg (fun z => z + 1) hI.2.1.1).trans (nI_1 _)
  have eN : sj_tn (sj_sw m i e like 10) = sj_tn (m 10) + 1 := by
    rw [e10]
    exact sj_tn_nI (by omega)
  have hor := sq_or_os hol (nI (sj_tn (m 10) + 1), sj_fi S (D 5) 1 + 1, upd (sj_ia S (D 7)) (sj_tn (m 10)) (nI i), upd (sj_ia S (D 9)) (sj_tn (m 10)) (nI e), upd (sj_ia S (D 11)) (sj_tn (m 10)) (sj_bi like), sj_cp 8 (sq_hn (upd (sj_ia S (D 7)) (sj_tn (m 10)) (nI i)) (upd (sj_ia S (D 9)) (sj_tn (m 10)) (nI e)) (upd (sj_ia S (D 11)) (sj_tn (m 10)) (sj_bi like)) (sj_tn (m 10) + 1)) (sj_ia S (D 13)))
  have hfr := sq_fr_os (S := S) (P := sq_P D) (o := D 5) (d := fun i => D (5 + i)) (nI (sj_tn (m 10) + 1), sj_fi S (D 5) 1 + 1, upd (sj_ia S (D 7)) (sj_tn (m 10)) (nI i), upd (sj_ia S (D 9)) (sj_tn (m 10)) (nI e), upd (sj_ia S (D 11)) (sj_tn (m 10)) (sj_bi like), sj_cp 8 (sq_hn (upd (sj_ia S (D 7)) (sj_tn (m 10)) (nI i)) (upd (sj_ia S (D 9)) (sj_tn (m 10)) (nI e)) (upd (sj_ia S (D 11)) (sj_tn (m 10)) (sj_bi like)) (sj_tn (m 10) + 1)) (sj_ia S (D 13))) (sq_Pi D) (sq_Pi D (i := 5 + 2)) (sq_Pi D (i := 5 + 4)) (sq_Pi D (i := 5 + 6)) (sq_Pi D (i := 5 + 8))
  have fr := sq_os_o h1 (nI (sj_tn (m 10) + 1), sj_fi S (D 5) 1 + 1, upd (sj_ia S (D 7)) (sj_tn (m 10)) (nI i), upd (sj_ia S (D 9)) (sj_tn (m 10)) (nI e), upd (sj_ia S (D 11)) (sj_tn (m 10)) (sj_bi like), sj_cp 8 (sq_hn (upd (sj_ia S (D 7)) (sj_tn (m 10)) (nI i)) (upd (sj_ia S (D 9)) (sj_tn (m 10)) (nI e)) (upd (sj_ia S (D 11)) (sj_tn (m 10)) (sj_bi like)) (sj_tn (m 10) + 1)) (sj_ia S (D 13)))
  refine sq_T_P h hF hfr ?_ ?_ ?_ (fun q hq => ?_) (fun j hj => ?_) ?_ (fun q hq => ?_)
  · rw [fr.1, e9]
    exact h3
  · rw [fr.1, lo 12 (by omega) (by omega) (by omega)]
    exact h6
  · rw [fr.1, lo 13 (by omega) (by omega) (by omega)]
    exact h7
  · rw [e9] at hq
    rw [fr.2.1]
    exact (hA q hq).trans (lo _ (by omega) (by omega) (by omega)).symm
  · rw [fr.2.2.1]
    exact (hE j hj).trans (lo j (by omega) (by omega) (by omega)).symm
  · rw [hor]
    refine sq_oR_new (sj_inv_oav hIM) eN ?_ (fun k hk => ?_)
    · rw [sj_sw_11]
      exact congrArg (fun z => z + 1) hO.2.1
    · by_cases hkN : k = sj_tn (m 10)
      · subst hkN
        rw [sj_upd_self, sj_upd_self, sj_upd_self, sj_sw_0, sj_sw_1, sj_sw_2]
        exact ⟨rfl, rfl, rfl⟩
      · rw [sj_upd_ne _ _ hkN, sj_upd_ne _ _ hkN, sj_upd_ne _ _ hkN, sj_sw_oa m i e like (w := 0) (show k < sj_tn (m 10) by omega) (by omega), sj_sw_oa m i e like (w := 1) (show k < sj_tn (m 10) by omega) (by omega), sj_sw_oa m i e like (w := 2) (show k < sj_tn (m 10) by omega) (by omega)]
        exact hO.2.2.1 k (by omega)
  · rw [e9] at hq
    obtain ⟨a, ha, hs9⟩ := hR q hq
    exact ⟨a, by rw [fr.2.2.2]; exact ha, sq_sm_cg (fun w _ _ => lo _ (by omega) (by omega) (by omega)) (hI.2.2.2.1 q hq) (hIM.2.2.2.1 q (by rw [e9]; exact hq)) hs9⟩
/-- an oath taken out -/
theorem sq_T_dO (h : sq_T S F D m) (hF : ∀ a, sq_P D a → F a) (hI : sj_inv m) {p : Nat} (hp : p < sj_tn (m 10)) : sq_T (sq_os S (D 5) (fun i => D (5 + i)) (nI (sj_tn (m 10) - 1), sj_fi S (D 5) 1, sj_cu p 27 (sj_ia S (D 7)), sj_cu p 27 (sj_ia S (D 9)), sj_cu p 27 (sj_ia S (D 11)), sj_cp 8 (sq_hn (sj_cu p 27 (sj_ia S (D 7))) (sj_cu p 27 (sj_ia S (D 9))) (sj_cu p 27 (sj_ia S (D 11))) (sj_tn (m 10) - 1)) (sj_ia S (D 13)))) F D (sj_dO m p) := by
  have hIM := sj_inv_dO hI hp
  obtain ⟨h1, ⟨h3, h6, h7⟩, hA, hE, hO, hR⟩ := id h
  have hol := h1.2.2.2.2.1.2
  have hN28 := hI.2.1.2
  have lo : ∀ j, j ≠ 10 → (j < 14 ∨ 98 ≤ j) → sj_dO m p j = m j := fun j a b => by
    unfold sj_dO sj_dj
    rw [if_neg a, if_neg (by omega)]
  have e9 : sj_dO m p 9 = m 9 := lo 9 (by omega) (by omega)
  have eN : sj_tn (sj_dO m p 10) = sj_tn (m 10) - 1 := by
    rw [sj_dO_10]
    exact sj_tn_nI (by omega)
  have hor := sq_or_os hol (nI (sj_tn (m 10) - 1), sj_fi S (D 5) 1, sj_cu p 27 (sj_ia S (D 7)), sj_cu p 27 (sj_ia S (D 9)), sj_cu p 27 (sj_ia S (D 11)), sj_cp 8 (sq_hn (sj_cu p 27 (sj_ia S (D 7))) (sj_cu p 27 (sj_ia S (D 9))) (sj_cu p 27 (sj_ia S (D 11))) (sj_tn (m 10) - 1)) (sj_ia S (D 13)))
  have hfr := sq_fr_os (S := S) (P := sq_P D) (o := D 5) (d := fun i => D (5 + i)) (nI (sj_tn (m 10) - 1), sj_fi S (D 5) 1, sj_cu p 27 (sj_ia S (D 7)), sj_cu p 27 (sj_ia S (D 9)), sj_cu p 27 (sj_ia S (D 11)), sj_cp 8 (sq_hn (sj_cu p 27 (sj_ia S (D 7))) (sj_cu p 27 (sj_ia S (D 9))) (sj_cu p 27 (sj_ia S (D 11))) (sj_tn (m 10) - 1)) (sj_ia S (D 13))) (sq_Pi D) (sq_Pi D (i := 5 + 2)) (sq_Pi D (i := 5 + 4)) (sq_Pi D (i := 5 + 6)) (sq_Pi D (i := 5 + 8))
  have fr := sq_os_o h1 (nI (sj_tn (m 10) - 1), sj_fi S (D 5) 1, sj_cu p 27 (sj_ia S (D 7)), sj_cu p 27 (sj_ia S (D 9)), sj_cu p 27 (sj_ia S (D 11)), sj_cp 8 (sq_hn (sj_cu p 27 (sj_ia S (D 7))) (sj_cu p 27 (sj_ia S (D 9))) (sj_cu p 27 (sj_ia S (D 11))) (sj_tn (m 10) - 1)) (sj_ia S (D 13)))
  refine sq_T_P h hF hfr ?_ ?_ ?_ (fun q hq => ?_) (fun j hj => ?_) ?_ (fun q hq => ?_)
  · rw [fr.1, e9]
    exact h3
  · rw [fr.1, lo 12 (by omega) (by omega)]
    exact h6
  · rw [fr.1, lo 13 (by omega) (by omega)]
    exact h7
  · rw [e9] at hq
    rw [fr.2.1]
    exact (hA q hq).trans (lo _ (by omega) (by omega)).symm
  · rw [fr.2.2.1]
    exact (hE j hj).trans (lo j (by omega) (by omega)).symm
  · rw [hor]
    refine sq_oR_new (sj_inv_oav hIM) eN ?_ (fun k hk => ?_)
    · rw [lo 11 (by omega) (by omega)]
      exact hO.2.1
    · rw [sj_dO_oa m p k 0 (by omega) (by omega) hp, sj_dO_oa m p k 1 (by omega) (by omega) hp, sj_dO_oa m p k 2 (by omega) (by omega) hp]
      unfold sj_cu
      by_cases hkp : k < p
      · rw [if_pos hkp, if_neg (by omega), if_neg (by omega), if_neg (by omega)]
        exact hO.2.2.1 k (by omega)
      · rw [if_neg hkp, if_pos (by omega), if_pos (by omega), if_pos (by omega)]
        exact hO.2.2.1 (k + 1) (by omega)
  · rw [e9] at hq
    obtain ⟨a, ha, hs9⟩ := hR q hq
    exact ⟨a, by rw [fr.2.2.2]; exact ha, sq_sm_cg (fun w _ _ => lo _ (by omega) (by omega)) (hI.2.2.2.1 q hq) (hIM.2.2.2.1 q (by rw [e9]; exact hq)) hs9⟩
end
