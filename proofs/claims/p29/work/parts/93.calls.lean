/-! THE LAW: what it changes of the class -/
section
variable {S T : sj_St} {P : Nat → Prop}
theorem sq_sm_xpM (h : sq_xp P S T) {F : Nat → Prop} (hPF : ∀ a, P a → F a) (h2 : ∀ a, P a → ¬ sj_kd S a = some 2) {m : Nat → Int32} {i a : Nat} (g : sq_sm S F m i a) : sq_sm T F m i a := by
  obtain ⟨rn, cn, rm, cm, g1, ⟨n1, n2, n3⟩, g3, g4⟩ := g
  have p1 : ¬ P a := fun hp => n1 (hPF _ hp)
  have p2 : ¬ P cn := fun hp => n2 (hPF _ hp)
  have p3 : ¬ P cm := fun hp => n3 (hPF _ hp)
  have p4 : ¬ P rn := fun hp => h2 _ hp g1.2.2.2.2.1.1
  have p5 : ¬ P rm := fun hp => h2 _ hp g1.2.2.2.2.2.2.1
  refine ⟨rn, cn, rm, cm, sq_sh_xp h p1 p4 p2 p5 p3 g1, ⟨n1, n2, n3⟩, fun k w hk hw => ?_, fun j hj => ?_⟩
  · rw [sq_x_ia h g1.2.2.2.2.1.2.2.1 p2]
    exact g3 k w hk hw
  · rw [sq_x_ia h g1.2.2.2.2.2.2.2.2.1 p3]
    exact g4 j hj
theorem sq_T_xpM (h : sq_xp P S T) {F : Nat → Prop} (hPF : ∀ a, P a → F a) (h2 : ∀ a, P a → ¬ sj_kd S a = some 2) {D : Nat → Nat} (hD : ∀ i, i < 16 → ¬ P (D i)) {m : Nat → Int32} (g : sq_T S F D m) : sq_T T F D m := by
  obtain ⟨gt, ⟨g1, g2, g3⟩, g4, g5, g6, g7⟩ := g
  have kt := gt.1
  have h0 := hD 0 (by omega)
  refine ⟨sq_tl_xp h hD gt, ⟨(sq_x_fi h kt h0 3).trans g1, (sq_x_fi h kt h0 6).trans g2, (sq_x_fi h kt h0 7).trans g3⟩, ?_, ?_, ?_, fun i hi => ?_⟩
  · rw [sq_x_ia h gt.2.2.2.1.2.2.2.1 (hD 4 (by omega))]
    exact g4
  · rw [sq_x_ia h gt.2.2.2.2.2.1.2.2.2.1 (hD 15 (by omega))]
    exact g5
  · rw [sq_or_xp h (hD 5 (by omega)) (fun i hi => hD (5 + i) (by omega)) gt.2.2.2.2.1.2]
    exact g6
  · obtain ⟨a, ha, hs⟩ := g7 i hi
    exact ⟨a, (sq_x_ra h gt.2.2.1.2.1 (hD 1 (by omega)) i).trans ha, sq_sm_xpM h hPF h2 hs⟩
theorem sq_hl_xpP (h : sq_xp P S T) {H sl : Nat} {Ts : Nat → Nat → Nat} (hH : ¬ P H) (hs : ¬ P sl) (g : sq_hl S H sl Ts) : sq_hl T H sl Ts := by
  obtain ⟨g0, g1, g2, g3, g4⟩ := g
  exact ⟨sq_x_k h g0, (sq_x_rf h g0 hH 0).trans g1, sq_x_k h g2, (sq_x_il h g2 hs).trans g3, fun j hj => (sq_x_ra h g2 hs j).trans (g4 j hj)⟩
theorem sq_k3_xpP (h : sq_xp P S T) {D : Nat → Nat} (hD : ¬ P (D 1)) (gt : sq_tl S D) (g : sq_k3 S D) : sq_k3 T D := fun j b hj hb => by
  rw [sq_x_ra h gt.2.2.1.2.1 hD j] at hb
  exact sq_x_k h (g j b hj hb)
end
/-- the cells of the law's rows -/
def sp_La (g : Nat → Nat) (a : Nat) : Prop := ∃ i, 142 ≤ i ∧ i < 148 ∧ a = g i
theorem sp_La_no {g : Nat → Nat} (hi : ∀ i j, i < 160 → j < 160 → g i = g j → i = j) {k : Nat} (hk : k < 142) : ¬ sp_La g (g k) := fun ⟨i, h1, h2, e⟩ => by
  have := hi k i (by omega) (by omega) e
  omega
theorem sp_Cl_no {g : Nat → Nat} (hi : ∀ i j, i < 160 → j < 160 → g i = g j → i = j) {k : Nat} (h1 : 142 ≤ k) (h2 : k < 160) : ¬ sq_Cl g (g k) := fun ⟨i, h3, e⟩ => by
  have := hi k i (by omega) (by omega) e
  omega
/-- what the law writes keeps the class -/
theorem sp_W_xp {S T : sj_St} {g : Nat → Nat} {P : Nat → Prop} (hP : ∀ a, P a → sp_La g a) (h : sq_xp P S T) (h2 : ∀ a, P a → ¬ sj_kd S a = some 2) {m : Nat → Int32} {hs : Bool} {ms : Nat → Int32} {p q : Nat} {Q : Nat → Nat → Int32} {n : Nat} {B : Nat → Int32} (hW : sq_W S g m hs ms p q Q n B) : sq_W T g m hs ms p q Q n B := by
  obtain ⟨⟨⟨c1, c2, c3, c4, c5⟩, c6, c7, c8⟩, ⟨t1, t2, t3⟩, k3, ⟨q1, q2, q3, q4, q5⟩, hX, hB⟩ := hW
  have hn : ∀ k, k < 142 → ¬ P (g k) := fun k hk h9 => sp_La_no c8 hk (hP _ h9)
  have hF : ∀ a, P a → sq_F g a := fun a ha => by
    obtain ⟨i, h3, h4, e⟩ := hP a ha
    exact ⟨i, by omega, e⟩
  have hD : ∀ t, t < 8 → ∀ i, i < 16 → ¬ P (sq_D g t i) := fun t ht i hi => hn (16 * t + i) (by omega)
  have hg := hn 141 (by omega)
  have hH := hn 139 (by omega)
  exact ⟨⟨⟨sq_x_k h c1, (sq_x_rf h c1 hg 0).trans c2, (sq_x_rf h c1 hg 1).trans c3, (sq_x_rf h c1 hg 2).trans c4, (sq_x_rf h c1 hg 3).trans c5⟩, fun t ht => sq_tl_xp h (hD t ht) (c6 t ht), sq_hl_xpP h hH (hn 140 (by omega)) c7, c8⟩, ⟨sq_T_xpM h hF h2 (hD 0 (by omega)) t1, (sq_x_fi h c1 hg 4).trans t2, fun hh => sq_T_xpM h hF h2 (hD 1 (by omega)) (t3 hh)⟩, fun t ht => sq_k3_xpP h (hD t ht 1 (by omega)) (c6 t ht) (k3 t ht), ⟨(sq_x_fi h c7.1 hH 1).trans q1, q2, (sq_x_fi h c7.1 hH 2).trans q3, q4, fun j hj => sq_T_xpM h hF h2 (hD (sq_pl p j) (by unfold sq_pl; omega)) (q5 j hj)⟩, sq_xl_xpP h (hn 128 (by omega)) (fun i hi => hn (128 + i) (by omega)) hX, hB⟩
/-- what a call answers, the state afterwards, whether one was saved -/
def sp_f (kd u v : Nat) (m : Nat → Int32) : Int32 × (Nat → Int32) × Bool :=
  if kd = 4 then (sj_old m (nI v) (sj_tn (m 9)), sj_pas m (nI v) (sj_tn (m 9)), true)
  else if kd = 5 then (m u, upd m u (nI v), true)
  else if kd = 6 then (if u < sj_tn (m 9) then (sj_drn m u, sj_drp m u, true) else (-101, m, false))
  else if ¬ (u < sj_tn (m 9) ∧ v < sj_tn (m 9)) then (-101, m, false)
  else if kd = 3 then (if sj_fo m u v = -1 then (0, m, true) else (1, sj_dO m (sj_tn (sj_fo m u v)), true))
  else if sj_why m u v (decide (kd = 1)) = 0 then (sj_hds (sj_sw m u v (decide (kd = 1))), sj_sw m u v (decide (kd = 1)), true) else (-103, m, false)
theorem sp_f_4 (u v : Nat) (m : Nat → Int32) : sp_f 4 u v m = (sj_old m (nI v) (sj_tn (m 9)), sj_pas m (nI v) (sj_tn (m 9)), true) := rfl
theorem sp_f_5 (u v : Nat) (m : Nat → Int32) : sp_f 5 u v m = (m u, upd m u (nI v), true) := rfl
theorem sp_f_6 {u : Nat} (v : Nat) {m : Nat → Int32} (h : u < sj_tn (m 9)) : sp_f 6 u v m = (sj_drn m u, sj_drp m u, true) := if_pos h
theorem sp_f_6x {u : Nat} (v : Nat) {m : Nat → Int32} (h : ¬ u < sj_tn (m 9)) : sp_f 6 u v m = (-101, m, false) := if_neg h
theorem sp_f_x {kd u v : Nat} {m : Nat → Int32} (hk : kd = 1 ∨ kd = 2 ∨ kd = 3) (h : ¬ (u < sj_tn (m 9) ∧ v < sj_tn (m 9))) : sp_f kd u v m = (-101, m, false) := by
  rcases hk with rfl | rfl | rfl
  all_goals exact if_pos h
theorem sp_f_3n {u v : Nat} {m : Nat → Int32} (h : u < sj_tn (m 9) ∧ v < sj_tn (m 9)) (hf : sj_fo m u v = -1) : sp_f 3 u v m = (0, m, true) := by
  show (if ¬ (u < sj_tn (m 9) ∧ v < sj_tn (m 9)) then ((-101 : Int32), m, false) else if sj_fo m u v = -1 then ((0 : Int32), m, true) else (1, sj_dO m (sj_tn (sj_fo m u v)), true)) = _
  rw [if_neg (fun h9 => h9 h), if_pos hf]
theorem sp_f_3y {u v : Nat} {m : Nat → Int32} (h : u < sj_tn (m 9) ∧ v < sj_tn (m 9)) (hf : ¬ sj_fo m u v = -1) : sp_f 3 u v m = (1, sj_dO m (sj_tn (sj_fo m u v)), true) := by
  show (if ¬ (u < sj_tn (m 9) ∧ v < sj_tn (m 9)) then ((-101 : Int32), m, false) else if sj_fo m u v = -1 then ((0 : Int32), m, true) else (1, sj_dO m (sj_tn (sj_fo m u v)), true)) = _
  rw [if_neg (fun h9 => h9 h), if_neg hf]
theorem sp_f_1 {u v : Nat} {m : Nat → Int32} (h : u < sj_tn (m 9) ∧ v < sj_tn (m 9)) (hw : sj_why m u v true = 0) : sp_f 1 u v m = (sj_hds (sj_sw m u v true), sj_sw m u v true, true) := by
  show (if ¬ (u < sj_tn (m 9) ∧ v < sj_tn (m 9)) then ((-101 : Int32), m, false) else if sj_why m u v true = 0 then (sj_hds (sj_sw m u v true), sj_sw m u v true, true) else (-103, m, false)) = _
  rw [if_neg (fun h9 => h9 h), if_pos hw]
theorem sp_f_1r {u v : Nat} {m : Nat → Int32} (h : u < sj_tn (m 9) ∧ v < sj_tn (m 9)) (hw : ¬ sj_why m u v true = 0) : sp_f 1 u v m = (-103, m, false) := by
  show (if ¬ (u < sj_tn (m 9) ∧ v < sj_tn (m 9)) then ((-101 : Int32), m, false) else if sj_why m u v true = 0 then (sj_hds (sj_sw m u v true), sj_sw m u v true, true) else (-103, m, false)) = _
  rw [if_neg (fun h9 => h9 h), if_neg hw]
theorem sp_f_2 {u v : Nat} {m : Nat → Int32} (h : u < sj_tn (m 9) ∧ v < sj_tn (m 9)) (hw : sj_why m u v false = 0) : sp_f 2 u v m = (sj_hds (sj_sw m u v false), sj_sw m u v false, true) := by
  show (if ¬ (u < sj_tn (m 9) ∧ v < sj_tn (m 9)) then ((-101 : Int32), m, false) else if sj_why m u v false = 0 then (sj_hds (sj_sw m u v false), sj_sw m u v false, true) else (-103, m, false)) = _
  rw [if_neg (fun h9 => h9 h), if_pos hw]
theorem sp_f_2r {u v : Nat} {m : Nat → Int32} (h : u < sj_tn (m 9) ∧ v < sj_tn (m 9)) (hw : ¬ sj_why m u v false = 0) : sp_f 2 u v m = (-103, m, false) := by
  show (if ¬ (u < sj_tn (m 9) ∧ v < sj_tn (m 9)) then ((-101 : Int32), m, false) else if sj_why m u v false = 0 then (sj_hds (sj_sw m u v false), sj_sw m u v false, true) else (-103, m, false)) = _
  rw [if_neg (fun h9 => h9 h), if_neg hw]
/-- the calls as the law makes them -/
def sp_ok (kd u v : Nat) : Prop := (kd = 4 ∧ 1 ≤ v ∧ v ≤ 99) ∨ (kd = 5 ∧ u < 9 ∧ sj_wi (nI v) 0 (sj_mst (nI u)) = true) ∨ ((kd = 1 ∨ kd = 2 ∨ kd = 3 ∨ kd = 6) ∧ u < 9 ∧ v < 9)
theorem sp_fo_lt2 {m : Nat → Int32} (hI : sj_inv m) {u v : Nat} (h : ¬ sj_fo m u v = -1) : sj_tn (sj_fo m u v) < sj_tn (m 10) ∧ sj_fo m u v = nI (sj_tn (sj_fo m u v)) := by
  have h28 := hI.2.1.2
  obtain ⟨j, hj, ej⟩ := sp_fo_in h28 (Int32.not_lt.mp (fun h1 => h ((sp_fo_lt h28).mp h1)))
  rw [ej, sj_tn_nI (by omega)]
  exact ⟨hj, rfl⟩
theorem sp_f_in {m : Nat → Int32} (hI : sj_inv m) (hu : sj_uc m) {kd u v : Nat} (hk : sp_ok kd u v) : sj_inv (sp_f kd u v m).2.1 ∧ sj_uc (sp_f kd u v m).2.1 := by
  rcases hk with ⟨rfl, h1, h2⟩ | ⟨rfl, h1, h2⟩ | ⟨hk, h1, h2⟩
  · rw [sp_f_4]
    have hIM : sj_inv (sj_pas m (nI v) (sj_tn (m 9))) := sj_inv_pas hI ⟨nI_pos' (by omega), nI_le (b := 99) h2 (by omega)⟩ _ rfl
    exact ⟨hIM, sj_uc_pas hI hu hIM⟩
  · rw [sp_f_5]
    have hIM : sj_inv (upd m u (nI v)) := sj_inv_set hI h1 h2
    refine ⟨hIM, sj_uc_cg (sj_inv_oav hI) (sj_inv_oav hIM) ?_ (fun k w hk hw => sj_upd_ne _ _ (by omega)) hu⟩
    show sj_tn (upd m u (nI v) 10) = _
    rw [sj_upd_ne _ _ (by omega)]
  · have dn : ∀ kd, (kd = 1 ∨ kd = 2 ∨ kd = 3) → ¬ (u < sj_tn (m 9) ∧ v < sj_tn (m 9)) → sj_inv (sp_f kd u v m).2.1 ∧ sj_uc (sp_f kd u v m).2.1 := fun kd hk h => by
      rw [sp_f_x hk h]
      exact ⟨hI, hu⟩
    rcases hk with rfl | rfl | rfl | rfl
    · by_cases h : u < sj_tn (m 9) ∧ v < sj_tn (m 9)
      · by_cases hw : sj_why m u v true = 0
        · rw [sp_f_1 h hw]
          exact ⟨sj_inv_sw hI h.1 h.2 hw, sj_uc_sw hI hu h.1 h.2 hw⟩
        · rw [sp_f_1r h hw]
          exact ⟨hI, hu⟩
      · exact dn 1 (by omega) h
    · by_cases h : u < sj_tn (m 9) ∧ v < sj_tn (m 9)
      · by_cases hw : sj_why m u v false = 0
        · rw [sp_f_2 h hw]
          exact ⟨sj_inv_sw hI h.1 h.2 hw, sj_uc_sw hI hu h.1 h.2 hw⟩
        · rw [sp_f_2r h hw]
          exact ⟨hI, hu⟩
      · exact dn 2 (by omega) h
    · by_cases h : u < sj_tn (m 9) ∧ v < sj_tn (m 9)
      · by_cases hf : sj_fo m u v = -1
        · rw [sp_f_3n h hf]
          exact ⟨hI, hu⟩
        · rw [sp_f_3y h hf]
          exact ⟨sj_inv_dO hI (sp_fo_lt2 hI hf).1, sj_uc_dO hI hu (sp_fo_lt2 hI hf).1⟩
      · exact dn 3 (by omega) h
    · by_cases h : u < sj_tn (m 9)
      · rw [sp_f_6 v h]
        exact ⟨sj_inv_drp hI h, sj_uc_drp hI hu h⟩
      · rw [sp_f_6x v h]
        exact ⟨hI, hu⟩
theorem sp_old_ge (m : Nat → Int32) (y : Int32) : ∀ k, -1 ≤ sj_old m y k
  | 0 => (show (-1 : Int32) ≤ -1 by decide)
  | k + 1 => by
    have ih := sp_old_ge m y k
    show -1 ≤ if sj_old m y k < sj_age m y k then sj_age m y k else sj_old m y k
    by_cases h : sj_old m y k < sj_age m y k
    · rw [if_pos h]
      exact Int32.le_trans ih (Int32.le_of_lt h)
    · rw [if_neg h]
      exact ih
theorem sp_dl_n (i : Nat) : ∀ (k : Nat) (m : Nat → Int32) (g : Nat), ∃ g', g' ≤ g + k ∧ (sj_dl i k m (nI g)).2 = nI g'
  | 0, _, g => ⟨g, Nat.le_refl _, rfl⟩
  | k + 1, m, g => by
    by_cases h : sj_oa m k 0 = nI i ∨ sj_oa m k 1 = nI i
    · obtain ⟨g', h1, h2⟩ := sp_dl_n i k (sj_dO m k) (g + 1)
      refine ⟨g', by omega, ?_⟩
      rw [show sj_dl i (k + 1) m (nI g) = sj_dl i k (sj_dO m k) (nI g + 1) from if_pos h, nI_1]
      exact h2
    · obtain ⟨g', h1, h2⟩ := sp_dl_n i k m g
      refine ⟨g', by omega, ?_⟩
      rw [show sj_dl i (k + 1) m (nI g) = sj_dl i k m (nI g) from if_neg h]
      exact h2
theorem sp_ge_n {n : Nat} (h : n < 2 ^ 31) : ¬ nI n < -100 := fun h1 => nI_pos h (Int32.lt_trans h1 (by decide))
theorem sp_hds_n {m : Nat → Int32} (hI : sj_inv m) : ∃ s, s < 100 ∧ sj_hds m = nI s := by
  have h8 := hI.1.2
  obtain ⟨s, h1, h2, h3⟩ := sj_sumI (fun k => sj_bi (decide (sj_hH m (-1) k = nI k))) 0 1 (sj_tn (m 9)) (fun k hk => by
    cases decide (sj_hH m (-1) k = nI k)
    · exact ⟨0, by omega, by omega, rfl⟩
    · exact ⟨1, by omega, by omega, rfl⟩)
  exact ⟨s, by omega, h1⟩
theorem sp_f_r {m : Nat → Int32} (hI : sj_inv m) {kd u v : Nat} (hk : sp_ok kd u v) : ((sp_f kd u v m).2.2 = true ∧ ¬ (sp_f kd u v m).1 < -100) ∨ ((sp_f kd u v m).2.2 = false ∧ (sp_f kd u v m).1 < -100 ∧ (sp_f kd u v m).2.1 = m) := by
  have h28 := hI.2.1.2
  rcases hk with ⟨rfl, h1, h2⟩ | ⟨rfl, h1, h2⟩ | ⟨hk, h1, h2⟩
  · rw [sp_f_4]
    exact Or.inl ⟨rfl, fun h => absurd (Int32.lt_of_le_of_lt (sp_old_ge m (nI v) _) h) (by decide)⟩
  · rw [sp_f_5]
    exact Or.inl ⟨rfl, fun h => absurd (Int32.lt_of_le_of_lt (hI.2.2.2.2 u h1).1 h) (by decide)⟩
  · have dn : ∀ kd, (kd = 1 ∨ kd = 2 ∨ kd = 3) → ¬ (u < sj_tn (m 9) ∧ v < sj_tn (m 9)) → (sp_f kd u v m).2.2 = false ∧ (sp_f kd u v m).1 < -100 ∧ (sp_f kd u v m).2.1 = m := fun kd hk h => by
      rw [sp_f_x hk h]
      exact ⟨rfl, show (-101 : Int32) < -100 by decide, rfl⟩
    rcases hk with rfl | rfl | rfl | rfl
    · by_cases h : u < sj_tn (m 9) ∧ v < sj_tn (m 9)
      · by_cases hw : sj_why m u v true = 0
        · rw [sp_f_1 h hw]
          obtain ⟨s, h3, h4⟩ := sp_hds_n (sj_inv_sw hI h.1 h.2 hw)
          exact Or.inl ⟨rfl, by rw [h4]; exact sp_ge_n (by omega)⟩
        · rw [sp_f_1r h hw]
          exact Or.inr ⟨rfl, show (-103 : Int32) < -100 by decide, rfl⟩
      · exact Or.inr (dn 1 (by omega) h)
    · by_cases h : u < sj_tn (m 9) ∧ v < sj_tn (m 9)
      · by_cases hw : sj_why m u v false = 0
        · rw [sp_f_2 h hw]
          obtain ⟨s, h3, h4⟩ := sp_hds_n (sj_inv_sw hI h.1 h.2 hw)
          exact Or.inl ⟨rfl, by rw [h4]; exact sp_ge_n (by omega)⟩
        · rw [sp_f_2r h hw]
          exact Or.inr ⟨rfl, show (-103 : Int32) < -100 by decide, rfl⟩
      · exact Or.inr (dn 2 (by omega) h)
    · by_cases h : u < sj_tn (m 9) ∧ v < sj_tn (m 9)
      · by_cases hf : sj_fo m u v = -1
        · rw [sp_f_3n h hf]
          exact Or.inl ⟨rfl, show ¬ (0 : Int32) < -100 by decide⟩
        · rw [sp_f_3y h hf]
          exact Or.inl ⟨rfl, show ¬ (1 : Int32) < -100 by decide⟩
      · exact Or.inr (dn 3 (by omega) h)
    · by_cases h : u < sj_tn (m 9)
      · rw [sp_f_6 v h]
        obtain ⟨g', h3, h4⟩ := sp_dl_n u (sj_tn (m 10)) m 0
        refine Or.inl ⟨rfl, ?_⟩
        show ¬ sj_drn m u < -100
        rw [show sj_drn m u = nI g' from h4]
        exact sp_ge_n (by omega)
      · rw [sp_f_6x v h]
        exact Or.inr ⟨rfl, show (-101 : Int32) < -100 by decide, rfl⟩
set_option maxRecDepth 100000 in
set_option maxHeartbeats 100000 in
theorem ct_L_call_0 (l : Launch) {S : sj_St} {x : Nat} (u v : Int32) {R : Int32} {P : sj_St → Prop} (hc : sj_CtW l mL_lay [(0, 5, 6, 16), (0, 5, 10, 18)] [.ref x, .int v] S (fun r T => r = some (.int R) ∧ P T)) : sj_Ctr l nL_call [.ref x, .int 0, .int u, .int v] S (fun r T => r = some (.int R) ∧ P T) := by
  refine sj_start ([some (.ref x), some (.int (0)), some (.int (u)), some (.int (v))]) (by decide +kernel) rfl rfl (fun X hX C hR => ?_)
  subst hX
  refine sj_iload_n C 1 rfl dL_call_0 rfl rfl ?_
  refine sj_tableIn C 40 dL_call_1 (by decide) (by decide) (off := 39) rfl rfl ?_
  refine sj_aload_n C 41 rfl dL_call_40 rfl rfl ?_
  refine sj_iload_n C 42 rfl dL_call_41 rfl rfl ?_
  refine sj_callSW C (sj_hN C) 45 rfl dL_call_42 cw_L_138 rfl hc rfl rfl rfl (fun v9 S9 hp9 => ?_)
  obtain ⟨rfl, hp⟩ := hp9
  refine sj_iret C hR rfl rfl dL_call_45 ?_
  exact ⟨rfl, hp⟩
set_option maxRecDepth 100000 in
set_option maxHeartbeats 100000 in
theorem ct_L_call_1 (l : Launch) {S : sj_St} {x : Nat} (u v : Int32) {R : Int32} {P : sj_St → Prop} (hc : sj_CtW l mL_swear [(0, 7, 8, 23), (0, 7, 13, 18)] [.ref x, .int u, .int v, .int 1] S (fun r T => r = some (.int R) ∧ P T)) : sj_Ctr l nL_call [.ref x, .int 1, .int u, .int v] S (fun r T => r = some (.int R) ∧ P T) := by
  refine sj_start ([some (.ref x), some (.int (1)), some (.int (u)), some (.int (v))]) (by decide +kernel) rfl rfl (fun X hX C hR => ?_)
  subst hX
  refine sj_iload_n C 1 rfl dL_call_0 rfl rfl ?_
  refine sj_tableIn C 46 dL_call_1 (by decide) (by decide) (off := 45) rfl rfl ?_
  refine sj_aload_n C 47 rfl dL_call_46 rfl rfl ?_
  refine sj_iload_n C 48 rfl dL_call_47 rfl rfl ?_
  refine sj_iload_n C 49 rfl dL_call_48 rfl rfl ?_
  refine sj_iconstv C (1) 50 rfl dL_call_49 rfl ?_
  refine sj_callSW C (sj_hN C) 53 rfl dL_call_50 cw_L_140 rfl hc rfl rfl rfl (fun v9 S9 hp9 => ?_)
  obtain ⟨rfl, hp⟩ := hp9
  refine sj_iret C hR rfl rfl dL_call_53 ?_
  exact ⟨rfl, hp⟩
set_option maxRecDepth 100000 in
set_option maxHeartbeats 100000 in
theorem ct_L_call_2 (l : Launch) {S : sj_St} {x : Nat} (u v : Int32) {R : Int32} {P : sj_St → Prop} (hc : sj_CtW l mL_swear [(0, 7, 8, 23), (0, 7, 13, 18)] [.ref x, .int u, .int v, .int 0] S (fun r T => r = some (.int R) ∧ P T)) : sj_Ctr l nL_call [.ref x, .int 2, .int u, .int v] S (fun r T => r = some (.int R) ∧ P T) := by
  refine sj_start ([some (.ref x), some (.int (2)), some (.int (u)), some (.int (v))]) (by decide +kernel) rfl rfl (fun X hX C hR => ?_)
  subst hX
  refine sj_iload_n C 1 rfl dL_call_0 rfl rfl ?_
  refine sj_tableIn C 54 dL_call_1 (by decide) (by decide) (off := 53) rfl rfl ?_
  refine sj_aload_n C 55 rfl dL_call_54 rfl rfl ?_
  refine sj_iload_n C 56 rfl dL_call_55 rfl rfl ?_
  refine sj_iload_n C 57 rfl dL_call_56 rfl rfl ?_
  refine sj_iconstv C (0) 58 rfl dL_call_57 rfl ?_
  refine sj_callSW C (sj_hN C) 61 rfl dL_call_58 cw_L_140 rfl hc rfl rfl rfl (fun v9 S9 hp9 => ?_)
  obtain ⟨rfl, hp⟩ := hp9
  refine sj_iret C hR rfl rfl dL_call_61 ?_
  exact ⟨rfl, hp⟩
set_option maxRecDepth 100000 in
set_option maxHeartbeats 100000 in
theorem ct_L_call_3 (l : Launch) {S : sj_St} {x : Nat} (u v : Int32) {R : Int32} {P : sj_St → Prop} (hc : sj_CtW l mL_recant [(0, 6, 7, 23)] [.ref x, .int u, .int v] S (fun r T => r = some (.int R) ∧ P T)) : sj_Ctr l nL_call [.ref x, .int 3, .int u, .int v] S (fun r T => r = some (.int R) ∧ P T) := by
  refine sj_start ([some (.ref x), some (.int (3)), some (.int (u)), some (.int (v))]) (by decide +kernel) rfl rfl (fun X hX C hR => ?_)
  subst hX
  refine sj_iload_n C 1 rfl dL_call_0 rfl rfl ?_
  refine sj_tableIn C 62 dL_call_1 (by decide) (by decide) (off := 61) rfl rfl ?_
  refine sj_aload_n C 63 rfl dL_call_62 rfl rfl ?_
  refine sj_iload_n C 64 rfl dL_call_63 rfl rfl ?_
  refine sj_iload_n C 65 rfl dL_call_64 rfl rfl ?_
  refine sj_callSW C (sj_hN C) 68 rfl dL_call_65 cw_L_143 rfl hc rfl rfl rfl (fun v9 S9 hp9 => ?_)
  obtain ⟨rfl, hp⟩ := hp9
  refine sj_iret C hR rfl rfl dL_call_68 ?_
  exact ⟨rfl, hp⟩
set_option maxRecDepth 100000 in
set_option maxHeartbeats 100000 in
theorem ct_L_call_4 (l : Launch) {S : sj_St} {x : Nat} (u v : Int32) {R : Int32} {P : sj_St → Prop} (hc : sj_CtW l mL_pass [(0, 5, 6, 16)] [.ref x, .int v] S (fun r T => r = some (.int R) ∧ P T)) : sj_Ctr l nL_call [.ref x, .int 4, .int u, .int v] S (fun r T => r = some (.int R) ∧ P T) := by
  refine sj_start ([some (.ref x), some (.int (4)), some (.int (u)), some (.int (v))]) (by decide +kernel) rfl rfl (fun X hX C hR => ?_)
  subst hX
  refine sj_iload_n C 1 rfl dL_call_0 rfl rfl ?_
  refine sj_tableIn C 69 dL_call_1 (by decide) (by decide) (off := 68) rfl rfl ?_
  refine sj_aload_n C 70 rfl dL_call_69 rfl rfl ?_
  refine sj_iload_n C 71 rfl dL_call_70 rfl rfl ?_
  refine sj_callSW C (sj_hN C) 74 rfl dL_call_71 cw_L_146 rfl hc rfl rfl rfl (fun v9 S9 hp9 => ?_)
  obtain ⟨rfl, hp⟩ := hp9
  refine sj_iret C hR rfl rfl dL_call_74 ?_
  exact ⟨rfl, hp⟩
set_option maxRecDepth 100000 in
set_option maxHeartbeats 100000 in
theorem ct_L_call_5 (l : Launch) {S : sj_St} {x : Nat} (u v : Int32) {R : Int32} {P : sj_St → Prop} (hc : sj_CtW l mL_set [(0, 6, 7, 23), (0, 6, 11, 16)] [.ref x, .int u, .int v] S (fun r T => r = some (.int R) ∧ P T)) : sj_Ctr l nL_call [.ref x, .int 5, .int u, .int v] S (fun r T => r = some (.int R) ∧ P T) := by
  refine sj_start ([some (.ref x), some (.int (5)), some (.int (u)), some (.int (v))]) (by decide +kernel) rfl rfl (fun X hX C hR => ?_)
  subst hX
  refine sj_iload_n C 1 rfl dL_call_0 rfl rfl ?_
  refine sj_tableIn C 75 dL_call_1 (by decide) (by decide) (off := 74) rfl rfl ?_
  refine sj_aload_n C 76 rfl dL_call_75 rfl rfl ?_
  refine sj_iload_n C 77 rfl dL_call_76 rfl rfl ?_
  refine sj_iload_n C 78 rfl dL_call_77 rfl rfl ?_
  refine sj_callSW C (sj_hN C) 81 rfl dL_call_78 cw_L_148 rfl hc rfl rfl rfl (fun v9 S9 hp9 => ?_)
  obtain ⟨rfl, hp⟩ := hp9
  refine sj_iret C hR rfl rfl dL_call_81 ?_
  exact ⟨rfl, hp⟩
set_option maxRecDepth 100000 in
set_option maxHeartbeats 100000 in
theorem ct_L_call_6 (l : Launch) {S : sj_St} {x : Nat} (u v : Int32) {R : Int32} {P : sj_St → Prop} (hc : sj_CtW l mL_drop [(0, 5, 6, 23)] [.ref x, .int u] S (fun r T => r = some (.int R) ∧ P T)) : sj_Ctr l nL_call [.ref x, .int 6, .int u, .int v] S (fun r T => r = some (.int R) ∧ P T) := by
  refine sj_start ([some (.ref x), some (.int (6)), some (.int (u)), some (.int (v))]) (by decide +kernel) rfl rfl (fun X hX C hR => ?_)
  subst hX
  refine sj_iload_n C 1 rfl dL_call_0 rfl rfl ?_
  refine sj_tableOut C 82 dL_call_1 (Or.inr (by decide)) rfl ?_
  refine sj_aload_n C 83 rfl dL_call_82 rfl rfl ?_
  refine sj_iload_n C 84 rfl dL_call_83 rfl rfl ?_
  refine sj_callSW C (sj_hN C) 87 rfl dL_call_84 cw_L_150 rfl hc rfl rfl rfl (fun v9 S9 hp9 => ?_)
  obtain ⟨rfl, hp⟩ := hp9
  refine sj_iret C hR rfl rfl dL_call_87 ?_
  exact ⟨rfl, hp⟩
theorem sp_Ctr_up {l : Launch} {M : sj_M} {av : List Value} {S : sj_St} {P P' : Option Value → sj_St → Prop} (h : sj_Ctr l M av S P) (hp : ∀ v T, P v T → P' v T) : sj_Ctr l M av S P' := by
  obtain ⟨y, cc, nL, ret, fr, lo, mc, ms⟩ := M
  intro D cy A sz hA p e ha hc hk s m args below hf happ hP hK
  obtain ⟨n, o, h1, h2, h3, ⟨⟨r, S', e1, e2, e3⟩, h4⟩, L, h5, h6⟩ := h D cy A sz hA p e ha hc hk s m args below hf happ hP hK
  exact ⟨n, o, h1, h2, h3, ⟨⟨r, S', e1, hp r S' e2, e3⟩, h4⟩, L, h5, h6⟩
theorem ct_L_call (l : Launch) (hl : l.stackTraces = false) {S : sj_St} {g : Nat → Nat} {m : Nat → Int32} {hs : Bool} {ms : Nat → Int32} {p q : Nat} {Q : Nat → Nat → Int32} {n : Nat} {B : Nat → Int32} (hW : sq_W S g m hs ms p q Q n B) (hI : sj_inv m) (hu : sj_uc m) {kd u v : Nat} (hk : sp_ok kd u v) : sj_Ctr l nL_call [.ref (g 141), .int (nI kd), .int (nI u), .int (nI v)] S (fun r T => r = some (.int (sp_f kd u v m).1) ∧ sq_fr (sq_Cl g) S T ∧ sq_W T g (sp_f kd u v m).2.1 hs ms (if (sp_f kd u v m).2.2 = true then sq_n6 p else p) (if (sp_f kd u v m).2.2 = true then sq_q6 q else q) (if (sp_f kd u v m).2.2 = true then sq_Qs m Q else Q) n B) := by
  have kd_x := hW.1.1.1
  have h8 := hI.1.2
  rcases hk with ⟨rfl, h1, h2⟩ | ⟨rfl, h1, h2⟩ | ⟨hk, h1, h2⟩
  · rw [sp_f_4]
    exact ct_L_call_4 l (nI u) (nI v) (ct_L_pass_r l kd_x (nI v) (ct_X6_pass l hW hI (nI v) (sp_wi (a := 1) (b := 99) h1 h2 (by omega))))
  · rw [sp_f_5]
    have h3 := ct_X6_set l hW hI (nI u) (nI v) (sp_wi (a := 0) (b := 8) (by omega) (by omega) (by omega)) h2
    rw [sj_tn_nI (n := u) (by omega)] at h3
    exact ct_L_call_5 l (nI u) (nI v) (ct_L_set_r l kd_x (nI u) (nI v) h3)
  · have nin : ∀ i : Nat, i < 9 → ¬ i < sj_tn (m 9) → sj_isn m (nI i) = false := fun i hi h => sp_isn0 hI (by omega) (by omega)
    have nor : ¬ (u < sj_tn (m 9) ∧ v < sj_tn (m 9)) → sj_isn m (nI u) = false ∨ sj_isn m (nI v) = false := fun h => by
      by_cases h9 : u < sj_tn (m 9)
      · exact Or.inr (nin v h2 (fun h5 => h ⟨h9, h5⟩))
      · exact Or.inl (nin u h1 h9)
    rcases hk with rfl | rfl | rfl | rfl
    · by_cases h : u < sj_tn (m 9) ∧ v < sj_tn (m 9)
      · by_cases hw : sj_why m u v true = 0
        · rw [sp_f_1 h hw]
          have h3 := ct_X6_swear l hW hI hu (nI u) (nI v) (sp_isn hI h.1) (sp_isn hI h.2) true
          rw [sj_tn_nI (n := u) (by omega), sj_tn_nI (n := v) (by omega)] at h3
          exact ct_L_call_1 l (nI u) (nI v) (ct_L_swear_r l kd_x (nI u) (nI v) 1 (h3 hw))
        · rw [sp_f_1r h hw]
          have h3 := ct_X6_swear_2 l hW hI hl hu (nI u) (nI v) (sp_isn hI h.1) (sp_isn hI h.2) true
          rw [sj_tn_nI (n := u) (by omega), sj_tn_nI (n := v) (by omega)] at h3
          exact ct_L_call_1 l (nI u) (nI v) (ct_L_swear_2 l kd_x (nI u) (nI v) 1 (h3 hw))
      · rw [sp_f_x (by omega) h]
        exact ct_L_call_1 l (nI u) (nI v) (ct_L_swear_1 l kd_x (nI u) (nI v) 1 (ct_X6_swear_1 l hW hI hl (nI u) (nI v) (nor h) true))
    · by_cases h : u < sj_tn (m 9) ∧ v < sj_tn (m 9)
      · by_cases hw : sj_why m u v false = 0
        · rw [sp_f_2 h hw]
          have h3 := ct_X6_swear l hW hI hu (nI u) (nI v) (sp_isn hI h.1) (sp_isn hI h.2) false
          rw [sj_tn_nI (n := u) (by omega), sj_tn_nI (n := v) (by omega)] at h3
          exact ct_L_call_2 l (nI u) (nI v) (ct_L_swear_r l kd_x (nI u) (nI v) 0 (h3 hw))
        · rw [sp_f_2r h hw]
          have h3 := ct_X6_swear_2 l hW hI hl hu (nI u) (nI v) (sp_isn hI h.1) (sp_isn hI h.2) false
          rw [sj_tn_nI (n := u) (by omega), sj_tn_nI (n := v) (by omega)] at h3
          exact ct_L_call_2 l (nI u) (nI v) (ct_L_swear_2 l kd_x (nI u) (nI v) 0 (h3 hw))
      · rw [sp_f_x (by omega) h]
        exact ct_L_call_2 l (nI u) (nI v) (ct_L_swear_1 l kd_x (nI u) (nI v) 0 (ct_X6_swear_1 l hW hI hl (nI u) (nI v) (nor h) false))
    · by_cases h : u < sj_tn (m 9) ∧ v < sj_tn (m 9)
      · have h3 := ct_X6_recant l hW hI (nI u) (nI v) (sp_isn hI h.1) (sp_isn hI h.2)
        rw [sj_tn_nI (n := u) (by omega), sj_tn_nI (n := v) (by omega)] at h3
        by_cases hf : sj_fo m u v = -1
        · rw [sp_f_3n h hf]
          rw [if_pos hf, if_pos hf] at h3
          exact ct_L_call_3 l (nI u) (nI v) (ct_L_recant_r l kd_x (nI u) (nI v) h3)
        · rw [sp_f_3y h hf]
          rw [if_neg hf, if_neg hf] at h3
          exact ct_L_call_3 l (nI u) (nI v) (ct_L_recant_r l kd_x (nI u) (nI v) h3)
      · rw [sp_f_x (by omega) h]
        exact ct_L_call_3 l (nI u) (nI v) (ct_L_recant_1 l kd_x (nI u) (nI v) (ct_X6_recant_1 l hW hI hl (nI u) (nI v) (nor h)))
    · by_cases h : u < sj_tn (m 9)
      · rw [sp_f_6 v h]
        have h3 := ct_X6_drop l hW hI (nI u) (sp_isn hI h)
        rw [sj_tn_nI (n := u) (by omega)] at h3
        exact ct_L_call_6 l (nI u) (nI v) (ct_L_drop_r l kd_x (nI u) h3)
      · rw [sp_f_6x v h]
        exact ct_L_call_6 l (nI u) (nI v) (ct_L_drop_1 l kd_x (nI u) (ct_X6_drop_1 l hW hI hl (nI u) (nin u h1 h)))
/-- what is due, and the law's rows afterwards -/
theorem ct_L_due (l : Launch) {S : sj_St} {rq ra rn rt rp : Nat} {m : Nat → Int32} (h : sp_B S rq ra rn rt rp m) (hI : sj_inv m) (hne : sp_ne rq ra rn rt rp) (huc : sj_uc m) {kd u v : Nat} (hk : sp_ok kd u v) (mn : Int32) : sj_Ctr l mL_due [.int (nI kd), .int (nI u), .int (nI v), .int mn, .ref rq, .ref ra, .ref rn, .ref rt, .ref rp] S (fun r U => r = some (.int (sp_f kd u v m).1) ∧ ∃ Q A N T P, U = sp_w S rq ra rn rt rp Q A N T P ∧ sp_R Q A N T P (sp_f kd u v m).2.1) := by
  have h8 := hI.1.2
  have hR0 := h.2.2.2.2.2
  have same : ∀ (kd' : Int32) (R : Int32), sj_Ctr l mL_due [.int kd', .int (nI u), .int (nI v), .int mn, .ref rq, .ref ra, .ref rn, .ref rt, .ref rp] S (sj_eq (some (.int R)) S) → sj_Ctr l mL_due [.int kd', .int (nI u), .int (nI v), .int mn, .ref rq, .ref ra, .ref rn, .ref rt, .ref rp] S (fun r U => r = some (.int R) ∧ ∃ Q A N T P, U = sp_w S rq ra rn rt rp Q A N T P ∧ sp_R Q A N T P m) := fun kd' R hc => sp_Ctr_up hc (fun r U hp => ⟨hp.1, _, _, _, _, _, hp.2.trans (sp_w_id hne).symm, hR0⟩)
  rcases hk with ⟨rfl, h1, h2⟩ | ⟨rfl, h1, h2⟩ | ⟨hk, h1, h2⟩
  · rw [sp_f_4]
    exact ct_L_due_4 l h hI hne (nI u) mn ⟨nI_pos' (by omega), nI_le (b := 99) h2 (by omega)⟩
  · rw [sp_f_5]
    exact ct_L_due_5 l h hI hne (nI v) mn h1
  · have nor : ¬ (u < sj_tn (m 9) ∧ v < sj_tn (m 9)) → sj_tn (m 9) ≤ u ∨ sj_tn (m 9) ≤ v := fun h => by omega
    rcases hk with rfl | rfl | rfl | rfl
    · by_cases h3 : u < sj_tn (m 9) ∧ v < sj_tn (m 9)
      · by_cases hw : sj_why m u v true = 0
        · rw [sp_f_1 h3 hw]
          exact ct_L_due_1 l h hI hne mn huc h3.1 h3.2 hw
        · rw [sp_f_1r h3 hw]
          exact same 1 _ (ct_L_due_1r l h hI hne mn huc h3.1 h3.2 hw)
      · rw [sp_f_x (by omega) h3]
        exact same 1 _ (ct_L_due_1x l h hI hne mn (nor h3) h1 h2)
    · by_cases h3 : u < sj_tn (m 9) ∧ v < sj_tn (m 9)
      · by_cases hw : sj_why m u v false = 0
        · rw [sp_f_2 h3 hw]
          exact ct_L_due_2 l h hI hne mn huc h3.1 h3.2 hw
        · rw [sp_f_2r h3 hw]
          exact same 2 _ (ct_L_due_2r l h hI hne mn huc h3.1 h3.2 hw)
      · rw [sp_f_x (by omega) h3]
        exact same 2 _ (ct_L_due_2x l h hI hne mn (nor h3) h1 h2)
    · by_cases h3 : u < sj_tn (m 9) ∧ v < sj_tn (m 9)
      · by_cases hf : sj_fo m u v = -1
        · rw [sp_f_3n h3 hf]
          exact same 3 _ (ct_L_due_3n l h hI hne mn h3.1 h3.2 hf)
        · rw [sp_f_3y h3 hf]
          obtain ⟨h5, h6⟩ := sp_fo_lt2 hI hf
          exact ct_L_due_3y l h hI hne mn h3.1 h3.2 h5 h6
      · rw [sp_f_x (by omega) h3]
        exact same 3 _ (ct_L_due_3x l h hI hne mn (nor h3) h1 h2)
    · by_cases h3 : u < sj_tn (m 9)
      · rw [sp_f_6 v h3]
        exact ct_L_due_6 l h hI hne (nI v) mn h3
      · rw [sp_f_6x v h3]
        exact same 6 _ (ct_L_due_6x l h hI hne (nI v) mn (by omega) h1)
