/-! THE LAW: what it asks of the class; a digest of its own -/
/-- a call of a wrapper, of which all is told -/
theorem sj_callW1 {X : sj_X} {M N : sj_M} (C : sj_C X M) {hh : List (Nat × Nat × Nat × Nat)} {S S2 : sj_St} {cl sl : Nat} {L : List (Option Value)} {pc idx n : Nat} {r : Value} {As st rest : List Value} (q : Nat) (hq : pc + 3 = q) (hd : decode M.2.1 pc = .ok (.invokestatic idx, 3)) (hV : sj_Vw M.1.cls idx N hh n) (hfit : sj_fit M N cl sl = true) (hM : sj_CtW X.2.1 N hh As S (fun v T => v = some r ∧ T = S2)) (hst : st = As.reverse ++ rest) (hn : As.length = n) (hcat : Nat.ble (rest.map fun v => v.category).sum 8 = true) (h16 : N.2.2.2.2.2.2.1 = 1 ∧ N.2.2.2.2.2.2.2 = 6) (kk : sj_G X S2 (cl + 1) (sl + 6) L q (r :: rest)) : sj_G X S cl sl L pc st := by
  refine sj_callSW C (sj_hN C) q hq hd hV hfit hM hst hn hcat (fun v S' hp => ?_)
  obtain ⟨rfl, rfl⟩ := hp
  rw [h16.1, h16.2]
  exact kk
theorem sp_fit2 {M : sj_M} {cl sl : Nat} (h1 : cl ≤ M.2.2.2.2.2.2.1) (h2 : sl ≤ M.2.2.2.2.2.2.2) : (Nat.ble cl M.2.2.2.2.2.2.1 && Nat.ble sl M.2.2.2.2.2.2.2) = true := by
  rw [Nat.ble_eq_true_of_le h1, Nat.ble_eq_true_of_le h2]
  rfl
theorem sp_isn {m : Nat → Int32} (hI : sj_inv m) {i : Nat} (hi : i < sj_tn (m 9)) : sj_isn m (nI i) = true := by
  have h8 := hI.1.2
  refine sj_isn_in hI (nI_pos' (by omega)) ?_
  rw [hI.1.1]
  exact nI_lt hi (by omega)
theorem sp_isn0 {m : Nat → Int32} (hI : sj_inv m) {i : Nat} (hi : sj_tn (m 9) ≤ i) (h : i < 2 ^ 31) : sj_isn m (nI i) = false := by
  refine sj_isn_hi hI ?_
  rw [hI.1.1]
  exact nI_nlt hi h
theorem sp_wi {a b i : Nat} (h1 : a ≤ i) (h2 : i ≤ b) (hb : b < 2 ^ 31) : sj_wi (nI i) (nI a) (nI b) = true := sj_wi_iff.mpr ⟨nI_le h1 (by omega), nI_le h2 hb⟩
set_option maxRecDepth 100000 in
set_option maxHeartbeats 150000 in
theorem ct_X6_mark_e (l : Launch) {S : sj_St} {g : Nat → Nat} {m : Nat → Int32} {hs : Bool} {ms : Nat → Int32} {p q : Nat} {Q : Nat → Nat → Int32} {n : Nat} {B : Nat → Int32} (hW : sq_W S g m hs ms p q Q n B) (hI : sj_inv m) (hl : l.stackTraces = false) (v : Int32) (hb : sj_isn m v = false) (w : Int32) : sj_CtX l mX6_mark [.ref (g 141), .int v, .int w] S "java/lang/IndexOutOfBoundsException" (fun T => T = S) := by
  refine sj_startX ([some (.ref (g 141)), some (.int v), some (.int w)]) (by decide +kernel) rfl rfl (fun X hX C hR => ?_)
  subst hX
  obtain ⟨⟨⟨kd_x, rf_x_0, rf_x_1, rf_x_2, rf_x_3⟩, hTl, hHl, hinj⟩, ⟨hT, h4, hT1⟩, hK3, ⟨hH1, hp6, hH2, hq6, hQ⟩, hX, hB⟩ := id hW
  have kd_t := hT.1.1
  have rf_t_4 := hT.1.2.2.2.2.1.1
  have rf_t_5 := hT.1.2.2.2.2.2.1.1
  have hol := hT.1.2.2.2.2.1.2
  have kd_o := hol.1
  have hset := hT.1.2.2.2.2.2.1.2
  have kd_se := hset.1
  have kd_tx := hX.1
  have kd_hi := hHl.1
  have h3 : sj_fi S (g 0) 3 = m 9 := hT.2.1.1
  have h6 : sj_fi S (g 0) 6 = m 12 := hT.2.1.2.1
  have h7 : sj_fi S (g 0) 7 = m 13 := hT.2.1.2.2
  have hRo := hT.2.2.2.2.1
  obtain ⟨h9, hn8⟩ := id hI.1
  have hN28 := hI.2.1.2
  have hv := sj_inv_oav hI
  refine sj_aload_n C 1 rfl dX6_mark_0 rfl rfl ?_
  refine sj_iload_n C 2 rfl dX6_mark_1 rfl rfl ?_
  refine sj_callVd C 5 rfl dX6_mark_2 cv_X6_83 rfl (ct_X6_isThere _ hW hI _) rfl rfl rfl ⟨_, _, kd_x, rfl, rfl, by decide⟩ ⟨rfl, rfl⟩ ?_
  refine sj_if_ne C 18 8 rfl rfl dX6_mark_5 (fun c_5 => ?_) (fun c_5 => ?_)
  · exact absurd c_5 (by rw [hb]; decide)
  · exact sj_throw C hR hl rfl sj_Ex_91 (wr_12 _ (List.mem_of_getElem? (i := 14) (by decide +kernel))) (wr_12 _ (List.mem_of_getElem? (i := 15) (by decide +kernel))) (text := "no such sheet") (by decide) dX6_mark_8 dX6_mark_11 dX6_mark_12 dX6_mark_14 dX6_mark_17 rfl rfl
set_option maxRecDepth 100000 in
set_option maxHeartbeats 150000 in
theorem ct_X6_sheet_e (l : Launch) {S : sj_St} {g : Nat → Nat} {m : Nat → Int32} {hs : Bool} {ms : Nat → Int32} {p q : Nat} {Q : Nat → Nat → Int32} {n : Nat} {B : Nat → Int32} (hW : sq_W S g m hs ms p q Q n B) (hI : sj_inv m) (hl : l.stackTraces = false) (v : Int32) (hb : sj_isn m v = false) (w : Int32) : sj_CtX l mX6_sheet [.ref (g 141), .int v, .int w] S "java/lang/IndexOutOfBoundsException" (fun T => T = S) := by
  refine sj_startX ([some (.ref (g 141)), some (.int v), some (.int w)]) (by decide +kernel) rfl rfl (fun X hX C hR => ?_)
  subst hX
  obtain ⟨⟨⟨kd_x, rf_x_0, rf_x_1, rf_x_2, rf_x_3⟩, hTl, hHl, hinj⟩, ⟨hT, h4, hT1⟩, hK3, ⟨hH1, hp6, hH2, hq6, hQ⟩, hX, hB⟩ := id hW
  have kd_t := hT.1.1
  have rf_t_4 := hT.1.2.2.2.2.1.1
  have rf_t_5 := hT.1.2.2.2.2.2.1.1
  have hol := hT.1.2.2.2.2.1.2
  have kd_o := hol.1
  have hset := hT.1.2.2.2.2.2.1.2
  have kd_se := hset.1
  have kd_tx := hX.1
  have kd_hi := hHl.1
  have h3 : sj_fi S (g 0) 3 = m 9 := hT.2.1.1
  have h6 : sj_fi S (g 0) 6 = m 12 := hT.2.1.2.1
  have h7 : sj_fi S (g 0) 7 = m 13 := hT.2.1.2.2
  have hRo := hT.2.2.2.2.1
  obtain ⟨h9, hn8⟩ := id hI.1
  have hN28 := hI.2.1.2
  have hv := sj_inv_oav hI
  refine sj_aload_n C 1 rfl dX6_sheet_0 rfl rfl ?_
  refine sj_iload_n C 2 rfl dX6_sheet_1 rfl rfl ?_
  refine sj_callVd C 5 rfl dX6_sheet_2 cv_X6_83 rfl (ct_X6_isThere _ hW hI _) rfl rfl rfl ⟨_, _, kd_x, rfl, rfl, by decide⟩ ⟨rfl, rfl⟩ ?_
  refine sj_if_ne C 18 8 rfl rfl dX6_sheet_5 (fun c_5 => ?_) (fun c_5 => ?_)
  · exact absurd c_5 (by rw [hb]; decide)
  · exact sj_throw C hR hl rfl sj_Ex_91 (wr_12 _ (List.mem_of_getElem? (i := 14) (by decide +kernel))) (wr_12 _ (List.mem_of_getElem? (i := 15) (by decide +kernel))) (text := "no such sheet") (by decide) dX6_sheet_8 dX6_sheet_11 dX6_sheet_12 dX6_sheet_14 dX6_sheet_17 rfl rfl
theorem sp_tc (m : Nat → Int32) (q : Int32) {w : Nat} (hw : w < 17) : sj_tc m q w = sj_tc m 0 w := by
  obtain rfl | rfl | rfl | rfl | rfl | rfl | rfl | rfl | h : w = 0 ∨ w = 1 ∨ w = 2 ∨ w = 3 ∨ w = 4 ∨ w = 5 ∨ w = 6 ∨ w = 7 ∨ 8 ≤ w := by omega
  all_goals first | rfl | (rw [sj_tc_hi m q h hw, sj_tc_hi m 0 h hw])
theorem tc_count (l : Launch) {S : sj_St} {g : Nat → Nat} {m : Nat → Int32} {hs : Bool} {ms : Nat → Int32} {p q : Nat} {Q : Nat → Nat → Int32} {n : Nat} {B : Nat → Int32} (hW : sq_W S g m hs ms p q Q n B) (hI : sj_inv m) {w : Nat} (hw : w < 17) : sj_CtW l mL_count [(0, 5, 6, 16)] [.ref (g 141), .int (nI w)] S (fun v T => v = some (.int (sj_tc m 0 w)) ∧ T = S) := by
  have kd_x := hW.1.1.1
  have h8 := hI.1.2
  have h1 := ct_X6_count l hW hI (nI w) (sp_wi (a := 0) (b := 17) (by omega) (by omega) (by omega))
  rw [sj_tn_nI (n := w) (by omega)] at h1
  rw [sp_tc m _ hw] at h1
  exact ct_L_count_r l kd_x _ (P := fun T => T = S) h1
theorem tc_oath (l : Launch) {S : sj_St} {g : Nat → Nat} {m : Nat → Int32} {hs : Bool} {ms : Nat → Int32} {p q : Nat} {Q : Nat → Nat → Int32} {n : Nat} {B : Nat → Int32} (hW : sq_W S g m hs ms p q Q n B) (hI : sj_inv m) {k w : Nat} (hk : k < 1000) (hw : w < 4) : sj_CtW l mL_oath [(0, 6, 7, 16)] [.ref (g 141), .int (nI k), .int (nI w)] S (fun v T => v = some (.int (sj_tlo m k w)) ∧ T = S) := by
  have kd_x := hW.1.1.1
  have h8 := hI.1.2
  have h1 := ct_X6_oath l hW hI (nI k) (nI w) (nI_pos (by omega)) (sp_wi (a := 0) (b := 3) (by omega) (by omega) (by omega))
  rw [sj_tn_nI (n := k) (by omega), sj_tn_nI (n := w) (by omega)] at h1
  exact ct_L_oath_r l kd_x _ _ (P := fun T => T = S) h1
theorem tc_sheet (l : Launch) {S : sj_St} {g : Nat → Nat} {m : Nat → Int32} {hs : Bool} {ms : Nat → Int32} {p q : Nat} {Q : Nat → Nat → Int32} {n : Nat} {B : Nat → Int32} (hW : sq_W S g m hs ms p q Q n B) (hI : sj_inv m) {i w : Nat} (hi : i < sj_tn (m 9)) (hw : w < 7) : sj_CtW l mL_sheet [(0, 6, 7, 23), (0, 6, 11, 16)] [.ref (g 141), .int (nI i), .int (nI w)] S (fun v T => v = some (.int (sj_ts m i w)) ∧ T = S) := by
  have kd_x := hW.1.1.1
  have h8 := hI.1.2
  have h1 := ct_X6_sheet l hW hI (nI i) (sp_isn hI hi) (nI w) (sp_wi (a := 0) (b := 6) (by omega) (by omega) (by omega))
  rw [sj_tn_nI (n := i) (by omega), sj_tn_nI (n := w) (by omega)] at h1
  exact ct_L_sheet_r l kd_x _ _ (P := fun T => T = S) h1
theorem tc_sheet0 (l : Launch) {S : sj_St} {g : Nat → Nat} {m : Nat → Int32} {hs : Bool} {ms : Nat → Int32} {p q : Nat} {Q : Nat → Nat → Int32} {n : Nat} {B : Nat → Int32} (hW : sq_W S g m hs ms p q Q n B) (hI : sj_inv m) (hl : l.stackTraces = false) {i w : Nat} (hi : sj_tn (m 9) ≤ i) (hi2 : i < 1000) : sj_CtW l mL_sheet [(0, 6, 7, 23), (0, 6, 11, 16)] [.ref (g 141), .int (nI i), .int (nI w)] S (fun v T => v = some (.int (-101)) ∧ T = S) := by
  have kd_x := hW.1.1.1
  have h8 := hI.1.2
  exact ct_L_sheet_1 l kd_x _ _ (P := fun T => T = S) (ct_X6_sheet_e l hW hI hl (nI i) (sp_isn0 hI hi (by omega)) (nI w))
theorem tc_mark (l : Launch) {S : sj_St} {g : Nat → Nat} {m : Nat → Int32} {hs : Bool} {ms : Nat → Int32} {p q : Nat} {Q : Nat → Nat → Int32} {n : Nat} {B : Nat → Int32} (hW : sq_W S g m hs ms p q Q n B) (hI : sj_inv m) {i j : Nat} (hi : i < sj_tn (m 9)) (hj : j < 6) : sj_CtW l mL_mark [(0, 6, 7, 23), (0, 6, 11, 16)] [.ref (g 141), .int (nI i), .int (nI j)] S (fun v T => v = some (.int (sj_mk m i j + 1000)) ∧ T = S) := by
  have kd_x := hW.1.1.1
  have h8 := hI.1.2
  have h1 := ct_X6_mark l hW hI (nI i) (sp_isn hI hi) (nI j) (sp_wi (a := 0) (b := 5) (by omega) (by omega) (by omega))
  rw [sj_tn_nI (n := i) (by omega), sj_tn_nI (n := j) (by omega)] at h1
  exact ct_L_mark_r l kd_x _ _ (P := fun T => T = S) h1
theorem tc_mark0 (l : Launch) {S : sj_St} {g : Nat → Nat} {m : Nat → Int32} {hs : Bool} {ms : Nat → Int32} {p q : Nat} {Q : Nat → Nat → Int32} {n : Nat} {B : Nat → Int32} (hW : sq_W S g m hs ms p q Q n B) (hI : sj_inv m) (hl : l.stackTraces = false) {i j : Nat} (hi : sj_tn (m 9) ≤ i) (hi2 : i < 1000) : sj_CtW l mL_mark [(0, 6, 7, 23), (0, 6, 11, 16)] [.ref (g 141), .int (nI i), .int (nI j)] S (fun v T => v = some (.int (-101)) ∧ T = S) := by
  have kd_x := hW.1.1.1
  have h8 := hI.1.2
  exact ct_L_mark_1 l kd_x _ _ (P := fun T => T = S) (ct_X6_mark_e l hW hI hl (nI i) (sp_isn0 hI hi (by omega)) (nI j))
theorem tc_stroke (l : Launch) {S : sj_St} {g : Nat → Nat} {m : Nat → Int32} {hs : Bool} {ms : Nat → Int32} {p q : Nat} {Q : Nat → Nat → Int32} {n : Nat} {B : Nat → Int32} (hW : sq_W S g m hs ms p q Q n B) (hI : sj_inv m) {i k w : Nat} (hi : i < sj_tn (m 9)) (hk : k < 8) (hw : w < 5) : sj_CtW l mL_stroke [(0, 7, 8, 23), (0, 7, 13, 16)] [.ref (g 141), .int (nI i), .int (nI k), .int (nI w)] S (fun v T => v = some (.int (sj_tst m i k w)) ∧ T = S) := by
  have kd_x := hW.1.1.1
  have h8 := hI.1.2
  have h1 := ct_X6_stroke l hW hI (nI i) (sp_isn hI hi) (nI k) (nI w) (sp_wi (a := 0) (b := 7) (by omega) (by omega) (by omega)) (sp_wi (a := 0) (b := 4) (by omega) (by omega) (by omega))
  rw [sj_tn_nI (n := i) (by omega), sj_tn_nI (n := k) (by omega), sj_tn_nI (n := w) (by omega)] at h1
  exact ct_L_stroke_r l kd_x _ _ _ (P := fun T => T = S) h1
theorem tc_compare (l : Launch) {S : sj_St} {g : Nat → Nat} {m : Nat → Int32} {hs : Bool} {ms : Nat → Int32} {p q : Nat} {Q : Nat → Nat → Int32} {n : Nat} {B : Nat → Int32} (hW : sq_W S g m hs ms p q Q n B) (hI : sj_inv m) {i e w : Nat} (hi : i < sj_tn (m 9)) (he : e < sj_tn (m 9)) (hw : w < 5) : sj_CtW l mL_compare [(0, 7, 8, 23), (0, 7, 13, 16)] [.ref (g 141), .int (nI i), .int (nI e), .int (nI w)] S (fun v T => v = some (.int (sj_cps m i e w)) ∧ T = S) := by
  have kd_x := hW.1.1.1
  have h8 := hI.1.2
  have h1 := ct_X6_compare l hW hI (nI i) (nI e) (sp_isn hI hi) (sp_isn hI he) (nI w) (sp_wi (a := 0) (b := 4) (by omega) (by omega) (by omega))
  rw [sj_tn_nI (n := i) (by omega), sj_tn_nI (n := e) (by omega), sj_tn_nI (n := w) (by omega)] at h1
  exact ct_L_compare_r l kd_x _ _ _ (P := fun T => T = S) h1
theorem tc_why (l : Launch) {S : sj_St} {g : Nat → Nat} {m : Nat → Int32} {hs : Bool} {ms : Nat → Int32} {p q : Nat} {Q : Nat → Nat → Int32} {n : Nat} {B : Nat → Int32} (hW : sq_W S g m hs ms p q Q n B) (hI : sj_inv m) (hu : sj_uc m) {i e : Nat} (hi : i < sj_tn (m 9)) (he : e < sj_tn (m 9)) (like : Bool) : sj_CtW l mL_whyNot [(0, 7, 8, 23)] [.ref (g 141), .int (nI i), .int (nI e), .int (sj_bi like)] S (fun v T => v = some (.int (sj_why m i e like)) ∧ T = S) := by
  have kd_x := hW.1.1.1
  have h8 := hI.1.2
  have h1 := ct_X6_whyNot l hW hI hu (nI i) (nI e) (sp_isn hI hi) (sp_isn hI he) like
  rw [sj_tn_nI (n := i) (by omega), sj_tn_nI (n := e) (by omega)] at h1
  exact ct_L_whyNot_r l kd_x _ _ _ (P := fun T => T = S) h1
theorem tc_near (l : Launch) {S : sj_St} {g : Nat → Nat} {m : Nat → Int32} {hs : Bool} {ms : Nat → Int32} {p q : Nat} {Q : Nat → Nat → Int32} {n : Nat} {B : Nat → Int32} (hW : sq_W S g m hs ms p q Q n B) (hI : sj_inv m) {i : Nat} (hi : i < sj_tn (m 9)) : sj_CtW l mL_nearest [(0, 5, 6, 23)] [.ref (g 141), .int (nI i)] S (fun v T => v = some (.int (sj_on (sj_mal m i (sj_tn (m 9))))) ∧ T = S) := by
  have kd_x := hW.1.1.1
  have h8 := hI.1.2
  have h1 := ct_X6_nearest l hW hI (nI i) (sp_isn hI hi)
  rw [sj_tn_nI (n := i) (by omega)] at h1
  exact ct_L_nearest_r l kd_x _ (P := fun T => T = S) h1
theorem tc_tol (l : Launch) {S : sj_St} {g : Nat → Nat} {m : Nat → Int32} {hs : Bool} {ms : Nat → Int32} {p q : Nat} {Q : Nat → Nat → Int32} {n : Nat} {B : Nat → Int32} (hW : sq_W S g m hs ms p q Q n B) (hI : sj_inv m) {i e j : Nat} (hi : i < sj_tn (m 9)) (he : e < sj_tn (m 9)) (hj : j < 6) : sj_CtW l mL_toleranceFor [(0, 7, 8, 23), (0, 7, 13, 16)] [.ref (g 141), .int (nI i), .int (nI e), .int (nI j)] S (fun v T => v = some (.int (sj_tol m i e j)) ∧ T = S) := by
  have kd_x := hW.1.1.1
  have h8 := hI.1.2
  have h1 := ct_X6_toleranceFor l hW hI (nI i) (nI e) (sp_isn hI hi) (sp_isn hI he) (nI j) (sp_wi (a := 0) (b := 5) (by omega) (by omega) (by omega))
  rw [sj_tn_nI (n := i) (by omega), sj_tn_nI (n := e) (by omega), sj_tn_nI (n := j) (by omega)] at h1
  exact ct_L_toleranceFor_r l kd_x _ _ _ (P := fun T => T = S) h1
theorem tc_ifp (l : Launch) {S : sj_St} {g : Nat → Nat} {m : Nat → Int32} {hs : Bool} {ms : Nat → Int32} {p q : Nat} {Q : Nat → Nat → Int32} {n : Nat} {B : Nat → Int32} (hW : sq_W S g m hs ms p q Q n B) (hI : sj_inv m) {i e : Nat} (hi : i < sj_tn (m 9)) (he : e < sj_tn (m 9)) {y : Int32} (hy : sj_wi y 1 99 = true) : sj_CtW l mL_ifPassed [(0, 7, 8, 23), (0, 7, 13, 16)] [.ref (g 141), .int (nI i), .int (nI e), .int y] S (fun v T => v = some (.int (sj_ifp m i e y)) ∧ T = S) := by
  have kd_x := hW.1.1.1
  have h8 := hI.1.2
  have h1 := ct_X6_ifPassed l hW hI (nI i) (nI e) (sp_isn hI hi) (sp_isn hI he) y hy
  rw [sj_tn_nI (n := i) (by omega), sj_tn_nI (n := e) (by omega)] at h1
  exact ct_L_ifPassed_r l kd_x _ _ _ (P := fun T => T = S) h1
abbrev nL_number : sj_M := (yL_number, cL_number, 2, none, 8, 126, 2, 12)
theorem cn_L_89 : sj_Vs RL 89 nL_number 2 := cv_L_89
abbrev nL_types : sj_M := (yL_types, cL_types, 13, some .int, 9, 147, 80, 480)
theorem cn_L_204 : sj_Vs RL 204 nL_types 4 := cv_L_204
abbrev nL_told : sj_M := (yL_told, cL_told, 4, some .long, 9, 203, 200, 1200)
theorem cn_L_208 : sj_Vs RL 208 nL_told 1 := cv_L_208
abbrev nL_call : sj_M := (yL_call, cL_call, 4, some .int, 8, 179, 5, 125)
theorem cn_L_212 : sj_Vs RL 212 nL_call 4 := cv_L_212
abbrev nL_isSheet : sj_M := (yL_isSheet, cL_isSheet, 21, some .boolean, 8, 165, 80, 480)
theorem cn_L_189 : sj_Vs RL 189 nL_isSheet 9 := cv_L_189
abbrev nL_isSo : sj_M := (yL_isSo, cL_isSo, 19, some .boolean, 9, 205, 300, 1800)
theorem cn_L_222 : sj_Vs RL 222 nL_isSo 7 := cv_L_222
def sp_t1 (m : Nat → Int32) : Nat → Int64
  | 0 => 263
  | k + 1 => 31 * sp_t1 m k + (sj_tc m 0 k).toInt64
def sp_t2 (m : Nat → Int32) : Nat → Int64
  | 0 => sp_t1 m 17
  | k + 1 => 31 * (31 * sp_t2 m k + (sj_tlo m k 0).toInt64 + 10 * (sj_tlo m k 1).toInt64) + (sj_tlo m k 2).toInt64
def sp_ts (m : Nat → Int32) (i w : Nat) : Int32 := if i < sj_tn (m 9) then sj_ts m i w else -101
def sp_tm (m : Nat → Int32) (i w : Nat) : Int32 := if i < sj_tn (m 9) then sj_mk m i w + 1000 else -101
def sp_t3 (m : Nat → Int32) : Nat → Int64
  | 0 => sp_t2 m 28
  | k + 1 => 31 * (31 * sp_t3 m k + (sp_ts m (k / 6) (k % 6)).toInt64) + (sp_tm m (k / 6) (k % 6)).toInt64
/-- what the law tells of the class -/
def sp_told (m : Nat → Int32) : Int64 := sp_t3 m 48
theorem tc_sheet9 (l : Launch) {S : sj_St} {g : Nat → Nat} {m : Nat → Int32} {hs : Bool} {ms : Nat → Int32} {p q : Nat} {Q : Nat → Nat → Int32} {n : Nat} {B : Nat → Int32} (hW : sq_W S g m hs ms p q Q n B) (hI : sj_inv m) (hl : l.stackTraces = false) {i w : Nat} (hi : i < 1000) (hw : w < 6) : sj_CtW l mL_sheet [(0, 6, 7, 23), (0, 6, 11, 16)] [.ref (g 141), .int (nI i), .int (nI w)] S (fun v T => v = some (.int (sp_ts m i w)) ∧ T = S) := by
  unfold sp_ts
  by_cases h : i < sj_tn (m 9)
  · rw [if_pos h]
    exact tc_sheet l hW hI h (by omega)
  · rw [if_neg h]
    exact tc_sheet0 l hW hI hl (by omega) hi
theorem tc_mark9 (l : Launch) {S : sj_St} {g : Nat → Nat} {m : Nat → Int32} {hs : Bool} {ms : Nat → Int32} {p q : Nat} {Q : Nat → Nat → Int32} {n : Nat} {B : Nat → Int32} (hW : sq_W S g m hs ms p q Q n B) (hI : sj_inv m) (hl : l.stackTraces = false) {i w : Nat} (hi : i < 1000) (hw : w < 6) : sj_CtW l mL_mark [(0, 6, 7, 23), (0, 6, 11, 16)] [.ref (g 141), .int (nI i), .int (nI w)] S (fun v T => v = some (.int (sp_tm m i w)) ∧ T = S) := by
  unfold sp_tm
  by_cases h : i < sj_tn (m 9)
  · rw [if_pos h]
    exact tc_mark l hW hI h hw
  · rw [if_neg h]
    exact tc_mark0 l hW hI hl (by omega) hi
set_option maxRecDepth 100000 in
set_option maxHeartbeats 400000 in
theorem ct_L_told (l : Launch) (hl : l.stackTraces = false) {S : sj_St} {g : Nat → Nat} {m : Nat → Int32} {hs : Bool} {ms : Nat → Int32} {p q : Nat} {Q : Nat → Nat → Int32} {n : Nat} {B : Nat → Int32} (hW : sq_W S g m hs ms p q Q n B) (hI : sj_inv m) : sj_Ctr l nL_told [.ref (g 141)] S (sj_eq (some (.long (sp_told m))) S) := by
  refine sj_start ([some (.ref (g 141)), none, none, none]) (by decide +kernel) rfl rfl (fun X hX C hR => ?_)
  subst hX
  have cut_85 : ∀ cl sl : Nat, (cl ≤ 101 + 2 * 0) → (sl ≤ 606 + 12 * 0) → sj_G X S cl sl [some (.ref (g 141)), some (.long (sp_t3 m 0)), none, some (.int (nI (0)))] 85 [] := by
    refine sj_down (fun k => ∀ cl sl : Nat, (cl ≤ 101 + 2 * k) → (sl ≤ 606 + 12 * k) → sj_G X S cl sl [some (.ref (g 141)), some (.long (sp_t3 m k)), none, some (.int (nI (k)))] 85 []) 48 (fun k hk ih_85 => ?_)
    intro cl sl hy85_0 hy85_1
    refine sj_iload_n C 86 rfl dL_told_85 rfl rfl ?_
    refine sj_bipush C (48) 88 rfl dL_told_86 (by decide) ?_
    refine sj_icmp_ge C 135 91 rfl rfl dL_told_88 (fun c_88 => ?_) (fun c_88 => ?_)
    · have hkn : k = 48 := by
        have h99 : ¬ k < 48 := fun h9 => nI_ge h9 (by omega) c_88
        omega
      subst hkn
      refine sj_lload_n C 136 rfl dL_told_135 rfl rfl ?_
      refine sj_lret C hR rfl (sp_fit2 (show cl ≤ 200 by omega) (show sl ≤ 1200 by omega)) dL_told_136 ?_
      exact ⟨rfl, rfl⟩
    · have hlt : k < 48 := Nat.not_le.mp fun h9 => c_88 (nI_le (a := 48) h9 (by omega))
      refine sj_ldc2 C (31) 94 rfl (wr_7 _ (List.mem_of_getElem? (i := 13) (by decide +kernel))) dL_told_91 ?_
      refine sj_ldc2 C (31) 97 rfl (wr_7 _ (List.mem_of_getElem? (i := 13) (by decide +kernel))) dL_told_94 ?_
      refine sj_lload_n C 98 rfl dL_told_97 rfl rfl ?_
      refine sj_lmul C 99 rfl dL_told_98 ?_
      refine sj_aload_n C 100 rfl dL_told_99 rfl rfl ?_
      refine sj_iload_n C 101 rfl dL_told_100 rfl rfl ?_
      refine sj_bipush C (6) 103 rfl dL_told_101 (by decide) ?_
      refine sj_idiv C 104 rfl dL_told_103 (by decide) ?_
      rw [show nI k / 6 = nI (k / 6) from sj_ndiv (b := 6) (by omega) (by omega)]
      refine sj_iload_n C 105 rfl dL_told_104 rfl rfl ?_
      refine sj_bipush C (6) 107 rfl dL_told_105 (by decide) ?_
      refine sj_irem C 108 rfl dL_told_107 (by decide) ?_
      rw [show nI k - nI k / 6 * 6 = nI (k % 6) from pk_rem (d := 6) (by omega) (by omega) (by omega)]
      refine sj_callW1 C 111 rfl dL_told_108 cw_L_164 (sj_fitO rfl rfl (show cl + 1 ≤ 200 by omega) (show sl + 6 ≤ 1200 by omega)) (tc_sheet9 _ hW hI hl (i := k / 6) (w := k % 6) (by omega) (by omega)) rfl rfl rfl ⟨rfl, rfl⟩ ?_
      refine sj_i2l C 112 rfl dL_told_111 ?_
      refine sj_ladd C 113 rfl dL_told_112 ?_
      refine sj_lmul C 114 rfl dL_told_113 ?_
      refine sj_aload_n C 115 rfl dL_told_114 rfl rfl ?_
      refine sj_iload_n C 116 rfl dL_told_115 rfl rfl ?_
      refine sj_bipush C (6) 118 rfl dL_told_116 (by decide) ?_
      refine sj_idiv C 119 rfl dL_told_118 (by decide) ?_
      rw [show nI k / 6 = nI (k / 6) from sj_ndiv (b := 6) (by omega) (by omega)]
      refine sj_iload_n C 120 rfl dL_told_119 rfl rfl ?_
      refine sj_bipush C (6) 122 rfl dL_told_120 (by decide) ?_
      refine sj_irem C 123 rfl dL_told_122 (by decide) ?_
      rw [show nI k - nI k / 6 * 6 = nI (k % 6) from pk_rem (d := 6) (by omega) (by omega) (by omega)]
      refine sj_callW1 C 126 rfl dL_told_123 cw_L_175 (sj_fitO rfl rfl (show cl + 1 + 1 ≤ 200 by omega) (show sl + 6 + 6 ≤ 1200 by omega)) (tc_mark9 _ hW hI hl (i := k / 6) (w := k % 6) (by omega) (by omega)) rfl rfl rfl ⟨rfl, rfl⟩ ?_
      refine sj_i2l C 127 rfl dL_told_126 ?_
      refine sj_ladd C 128 rfl dL_told_127 ?_
      refine sj_lstore_n_1 C 129 rfl dL_told_128 rfl rfl ?_
      refine sj_iinc_3 C 132 rfl dL_told_129 rfl rfl ?_
      rw [show nI (k) + Int32.ofInt 1 = nI (k + 1) from nI_add _ _]
      refine sj_goto C 85 rfl dL_told_132 ?_
      exact ih_85 (hlt) _ _ (by omega) (by omega)
  have cut_33 : ∀ cl sl : Nat, (cl ≤ 17 + 3 * 0) → (sl ≤ 102 + 18 * 0) → sj_G X S cl sl [some (.ref (g 141)), some (.long (sp_t2 m 0)), none, some (.int (nI (0)))] 33 [] := by
    refine sj_down (fun k => ∀ cl sl : Nat, (cl ≤ 17 + 3 * k) → (sl ≤ 102 + 18 * k) → sj_G X S cl sl [some (.ref (g 141)), some (.long (sp_t2 m k)), none, some (.int (nI (k)))] 33 []) 28 (fun k hk ih_33 => ?_)
    intro cl sl hy33_0 hy33_1
    refine sj_iload_n C 34 rfl dL_told_33 rfl rfl ?_
    refine sj_bipush C (28) 36 rfl dL_told_34 (by decide) ?_
    refine sj_icmp_ge C 83 39 rfl rfl dL_told_36 (fun c_36 => ?_) (fun c_36 => ?_)
    · have hkn : k = 28 := by
        have h99 : ¬ k < 28 := fun h9 => nI_ge h9 (by omega) c_36
        omega
      subst hkn
      refine sj_iconstv C (0) 84 rfl dL_told_83 rfl ?_
      refine sj_istore_n_3 C 85 rfl dL_told_84 rfl rfl ?_
      exact cut_85 _ _ (by omega) (by omega)
    · have hlt : k < 28 := Nat.not_le.mp fun h9 => c_36 (nI_le (a := 28) h9 (by omega))
      refine sj_ldc2 C (31) 42 rfl (wr_7 _ (List.mem_of_getElem? (i := 13) (by decide +kernel))) dL_told_39 ?_
      refine sj_ldc2 C (31) 45 rfl (wr_7 _ (List.mem_of_getElem? (i := 13) (by decide +kernel))) dL_told_42 ?_
      refine sj_lload_n C 46 rfl dL_told_45 rfl rfl ?_
      refine sj_lmul C 47 rfl dL_told_46 ?_
      refine sj_aload_n C 48 rfl dL_told_47 rfl rfl ?_
      refine sj_iload_n C 49 rfl dL_told_48 rfl rfl ?_
      refine sj_iconstv C (0) 50 rfl dL_told_49 rfl ?_
      refine sj_callW1 C 53 rfl dL_told_50 cw_L_187 (sj_fitO rfl rfl (show cl + 1 ≤ 200 by omega) (show sl + 6 ≤ 1200 by omega)) (tc_oath _ hW hI (k := k) (w := 0) (by omega) (by omega)) rfl rfl rfl ⟨rfl, rfl⟩ ?_
      refine sj_i2l C 54 rfl dL_told_53 ?_
      refine sj_ladd C 55 rfl dL_told_54 ?_
      refine sj_ldc2 C (10) 58 rfl (wr_7 _ (List.mem_of_getElem? (i := 14) (by decide +kernel))) dL_told_55 ?_
      refine sj_aload_n C 59 rfl dL_told_58 rfl rfl ?_
      refine sj_iload_n C 60 rfl dL_told_59 rfl rfl ?_
      refine sj_iconstv C (1) 61 rfl dL_told_60 rfl ?_
      refine sj_callW1 C 64 rfl dL_told_61 cw_L_187 (sj_fitO rfl rfl (show cl + 1 + 1 ≤ 200 by omega) (show sl + 6 + 6 ≤ 1200 by omega)) (tc_oath _ hW hI (k := k) (w := 1) (by omega) (by omega)) rfl rfl rfl ⟨rfl, rfl⟩ ?_
      refine sj_i2l C 65 rfl dL_told_64 ?_
      refine sj_lmul C 66 rfl dL_told_65 ?_
      refine sj_ladd C 67 rfl dL_told_66 ?_
      refine sj_lmul C 68 rfl dL_told_67 ?_
      refine sj_aload_n C 69 rfl dL_told_68 rfl rfl ?_
      refine sj_iload_n C 70 rfl dL_told_69 rfl rfl ?_
      refine sj_iconstv C (2) 71 rfl dL_told_70 rfl ?_
      refine sj_callW1 C 74 rfl dL_told_71 cw_L_187 (sj_fitO rfl rfl (show cl + 1 + 1 + 1 ≤ 200 by omega) (show sl + 6 + 6 + 6 ≤ 1200 by omega)) (tc_oath _ hW hI (k := k) (w := 2) (by omega) (by omega)) rfl rfl rfl ⟨rfl, rfl⟩ ?_
      refine sj_i2l C 75 rfl dL_told_74 ?_
      refine sj_ladd C 76 rfl dL_told_75 ?_
      refine sj_lstore_n_1 C 77 rfl dL_told_76 rfl rfl ?_
      refine sj_iinc_3 C 80 rfl dL_told_77 rfl rfl ?_
      rw [show nI (k) + Int32.ofInt 1 = nI (k + 1) from nI_add _ _]
      refine sj_goto C 33 rfl dL_told_80 ?_
      exact ih_33 (hlt) _ _ (by omega) (by omega)
  have cut_6 : ∀ cl sl : Nat, (cl ≤ 0 + 1 * 0) → (sl ≤ 0 + 6 * 0) → sj_G X S cl sl [some (.ref (g 141)), some (.long (sp_t1 m 0)), none, some (.int (nI (0)))] 6 [] := by
    refine sj_down (fun k => ∀ cl sl : Nat, (cl ≤ 0 + 1 * k) → (sl ≤ 0 + 6 * k) → sj_G X S cl sl [some (.ref (g 141)), some (.long (sp_t1 m k)), none, some (.int (nI (k)))] 6 []) 17 (fun k hk ih_6 => ?_)
    intro cl sl hy6_0 hy6_1
    refine sj_iload_n C 7 rfl dL_told_6 rfl rfl ?_
    refine sj_bipush C (17) 9 rfl dL_told_7 (by decide) ?_
    refine sj_icmp_ge C 31 12 rfl rfl dL_told_9 (fun c_9 => ?_) (fun c_9 => ?_)
    · have hkn : k = 17 := by
        have h99 : ¬ k < 17 := fun h9 => nI_ge h9 (by omega) c_9
        omega
      subst hkn
      refine sj_iconstv C (0) 32 rfl dL_told_31 rfl ?_
      refine sj_istore_n_3 C 33 rfl dL_told_32 rfl rfl ?_
      exact cut_33 _ _ (by omega) (by omega)
    · have hlt : k < 17 := Nat.not_le.mp fun h9 => c_9 (nI_le (a := 17) h9 (by omega))
      refine sj_ldc2 C (31) 15 rfl (wr_7 _ (List.mem_of_getElem? (i := 13) (by decide +kernel))) dL_told_12 ?_
      refine sj_lload_n C 16 rfl dL_told_15 rfl rfl ?_
      refine sj_lmul C 17 rfl dL_told_16 ?_
      refine sj_aload_n C 18 rfl dL_told_17 rfl rfl ?_
      refine sj_iload_n C 19 rfl dL_told_18 rfl rfl ?_
      refine sj_callW1 C 22 rfl dL_told_19 cw_L_181 (sj_fitO rfl rfl (show cl + 1 ≤ 200 by omega) (show sl + 6 ≤ 1200 by omega)) (tc_count _ hW hI (w := k) hlt) rfl rfl rfl ⟨rfl, rfl⟩ ?_
      refine sj_i2l C 23 rfl dL_told_22 ?_
      refine sj_ladd C 24 rfl dL_told_23 ?_
      refine sj_lstore_n_1 C 25 rfl dL_told_24 rfl rfl ?_
      refine sj_iinc_3 C 28 rfl dL_told_25 rfl rfl ?_
      rw [show nI (k) + Int32.ofInt 1 = nI (k + 1) from nI_add _ _]
      refine sj_goto C 6 rfl dL_told_28 ?_
      exact ih_6 (hlt) _ _ (by omega) (by omega)
  refine sj_ldc2 C (263) 3 rfl (wr_7 _ (List.mem_of_getElem? (i := 12) (by decide +kernel))) dL_told_0 ?_
  refine sj_lstore_n_1 C 4 rfl dL_told_3 rfl rfl ?_
  refine sj_iconstv C (0) 5 rfl dL_told_4 rfl ?_
  refine sj_istore_n_3 C 6 rfl dL_told_5 rfl rfl ?_
  exact cut_6 _ _ (by omega) (by omega)
