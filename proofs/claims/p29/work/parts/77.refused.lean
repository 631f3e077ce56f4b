/-! THE CLASS: what is refused -/
theorem sq_lts {v : Int32} {k : Nat} (hk : k + 1 < 2 ^ 31) (h : v < nI (k + 1)) : ¬ nI k < v := fun h2 => by
  have a := Int32.lt_iff_toInt_lt.mp h
  have b := Int32.lt_iff_toInt_lt.mp h2
  rw [nI_toInt (by omega)] at a b
  omega
theorem sq_wil {v : Int32} {k : Nat} (hk : k + 1 < 2 ^ 31) (h0 : ¬ v < 0) (h : v < nI (k + 1)) : sj_wi v 0 (nI k) = true := sj_wi_in h0 (sq_lts hk h)
theorem sq_tf {b : Bool} {C : Prop} (h : b = false) (g : b = true) : C := by
  rw [h] at g
  cases g
set_option maxRecDepth 100000 in
set_option maxHeartbeats 150000 in
theorem ct_X6_drop_1 (l : Launch) {S : sj_St} {g : Nat → Nat} {m : Nat → Int32} {hs : Bool} {ms : Nat → Int32} {p q : Nat} {Q : Nat → Nat → Int32} {n : Nat} {B : Nat → Int32} (hW : sq_W S g m hs ms p q Q n B) (hI : sj_inv m) (hl : l.stackTraces = false) (v : Int32) (hb : sj_isn m v = false) : sj_CtX l mX6_drop [.ref (g 141), .int v] S "java/lang/IndexOutOfBoundsException" (fun T => sq_fr (sq_Cl g) S T ∧ sq_W T g m hs ms p q Q n B) := by
  refine sj_startX ([some (.ref (g 141)), some (.int v)]) (by decide +kernel) rfl rfl (fun X hX C hR => ?_)
  subst hX
  obtain ⟨⟨⟨kd_x, rf_x_0, rf_x_1, rf_x_2, rf_x_3⟩, hTl, hHl, hinj⟩, ⟨hT, h4, hT1⟩, hK3, ⟨hH1, hp6, hH2, hq6, hQ⟩, hX, hB⟩ := id hW
  have kd_t := hT.1.1
  have rf_t_4 := hT.1.2.2.2.2.1.1
  have rf_t_5 := hT.1.2.2.2.2.2.1.1
  have hol := hT.1.2.2.2.2.1.2
  have kd_o := hol.1
  have hset := hT.1.2.2.2.2.2.1.2
  have kd_se := hset.1
  have kd_tx := hX.1
  have kd_hi := hHl.1
  have h3 : sj_fi S (g 0) 3 = m 9 := hT.2.1.1
  have h6 : sj_fi S (g 0) 6 = m 12 := hT.2.1.2.1
  have h7 : sj_fi S (g 0) 7 = m 13 := hT.2.1.2.2
  have hRo := hT.2.2.2.2.1
  obtain ⟨h9, hn8⟩ := id hI.1
  have hN28 := hI.2.1.2
  have hv := sj_inv_oav hI
  refine sj_aload_n C 1 rfl dX6_drop_0 rfl rfl ?_
  refine sj_iload_n C 2 rfl dX6_drop_1 rfl rfl ?_
  refine sj_callVd C 5 rfl dX6_drop_2 cv_X6_83 rfl (ct_X6_isThere _ hW hI _) rfl rfl rfl ⟨_, _, kd_x, rfl, rfl, by decide⟩ ⟨rfl, rfl⟩ ?_
  refine sj_if_ne C 18 8 rfl rfl dX6_drop_5 (fun c_5 => ?_) (fun c_5 => ?_)
  · exact absurd c_5 (by rw [hb]; decide)
  · exact sj_throw C hR hl rfl sj_Ex_91 (wr_12 _ (List.mem_of_getElem? (i := 14) (by decide +kernel))) (wr_12 _ (List.mem_of_getElem? (i := 15) (by decide +kernel))) (text := "no such sheet") (by decide) dX6_drop_8 dX6_drop_11 dX6_drop_12 dX6_drop_14 dX6_drop_17 rfl (⟨sq_fr_id, hW⟩)
set_option maxRecDepth 100000 in
set_option maxHeartbeats 150000 in
theorem ct_X6_sheet_1 (l : Launch) {S : sj_St} {g : Nat → Nat} {m : Nat → Int32} {hs : Bool} {ms : Nat → Int32} {p q : Nat} {Q : Nat → Nat → Int32} {n : Nat} {B : Nat → Int32} (hW : sq_W S g m hs ms p q Q n B) (hI : sj_inv m) (hl : l.stackTraces = false) (v : Int32) (hb : sj_isn m v = false) (w : Int32) : sj_CtX l mX6_sheet [.ref (g 141), .int v, .int w] S "java/lang/IndexOutOfBoundsException" (fun T => sq_fr (sq_Cl g) S T ∧ sq_W T g m hs ms p q Q n B) := by
  refine sj_startX ([some (.ref (g 141)), some (.int v), some (.int w)]) (by decide +kernel) rfl rfl (fun X hX C hR => ?_)
  subst hX
  obtain ⟨⟨⟨kd_x, rf_x_0, rf_x_1, rf_x_2, rf_x_3⟩, hTl, hHl, hinj⟩, ⟨hT, h4, hT1⟩, hK3, ⟨hH1, hp6, hH2, hq6, hQ⟩, hX, hB⟩ := id hW
  have kd_t := hT.1.1
  have rf_t_4 := hT.1.2.2.2.2.1.1
  have rf_t_5 := hT.1.2.2.2.2.2.1.1
  have hol := hT.1.2.2.2.2.1.2
  have kd_o := hol.1
  have hset := hT.1.2.2.2.2.2.1.2
  have kd_se := hset.1
  have kd_tx := hX.1
  have kd_hi := hHl.1
  have h3 : sj_fi S (g 0) 3 = m 9 := hT.2.1.1
  have h6 : sj_fi S (g 0) 6 = m 12 := hT.2.1.2.1
  have h7 : sj_fi S (g 0) 7 = m 13 := hT.2.1.2.2
  have hRo := hT.2.2.2.2.1
  obtain ⟨h9, hn8⟩ := id hI.1
  have hN28 := hI.2.1.2
  have hv := sj_inv_oav hI
  refine sj_aload_n C 1 rfl dX6_sheet_0 rfl rfl ?_
  refine sj_iload_n C 2 rfl dX6_sheet_1 rfl rfl ?_
  refine sj_callVd C 5 rfl dX6_sheet_2 cv_X6_83 rfl (ct_X6_isThere _ hW hI _) rfl rfl rfl ⟨_, _, kd_x, rfl, rfl, by decide⟩ ⟨rfl, rfl⟩ ?_
  refine sj_if_ne C 18 8 rfl rfl dX6_sheet_5 (fun c_5 => ?_) (fun c_5 => ?_)
  · exact absurd c_5 (by rw [hb]; decide)
  · exact sj_throw C hR hl rfl sj_Ex_91 (wr_12 _ (List.mem_of_getElem? (i := 14) (by decide +kernel))) (wr_12 _ (List.mem_of_getElem? (i := 15) (by decide +kernel))) (text := "no such sheet") (by decide) dX6_sheet_8 dX6_sheet_11 dX6_sheet_12 dX6_sheet_14 dX6_sheet_17 rfl (⟨sq_fr_id, hW⟩)
set_option maxRecDepth 100000 in
set_option maxHeartbeats 150000 in
theorem ct_X6_mark_1 (l : Launch) {S : sj_St} {g : Nat → Nat} {m : Nat → Int32} {hs : Bool} {ms : Nat → Int32} {p q : Nat} {Q : Nat → Nat → Int32} {n : Nat} {B : Nat → Int32} (hW : sq_W S g m hs ms p q Q n B) (hI : sj_inv m) (hl : l.stackTraces = false) (v : Int32) (hb : sj_isn m v = false) (w : Int32) : sj_CtX l mX6_mark [.ref (g 141), .int v, .int w] S "java/lang/IndexOutOfBoundsException" (fun T => sq_fr (sq_Cl g) S T ∧ sq_W T g m hs ms p q Q n B) := by
  refine sj_startX ([some (.ref (g 141)), some (.int v), some (.int w)]) (by decide +kernel) rfl rfl (fun X hX C hR => ?_)
  subst hX
  obtain ⟨⟨⟨kd_x, rf_x_0, rf_x_1, rf_x_2, rf_x_3⟩, hTl, hHl, hinj⟩, ⟨hT, h4, hT1⟩, hK3, ⟨hH1, hp6, hH2, hq6, hQ⟩, hX, hB⟩ := id hW
  have kd_t := hT.1.1
  have rf_t_4 := hT.1.2.2.2.2.1.1
  have rf_t_5 := hT.1.2.2.2.2.2.1.1
  have hol := hT.1.2.2.2.2.1.2
  have kd_o := hol.1
  have hset := hT.1.2.2.2.2.2.1.2
  have kd_se := hset.1
  have kd_tx := hX.1
  have kd_hi := hHl.1
  have h3 : sj_fi S (g 0) 3 = m 9 := hT.2.1.1
  have h6 : sj_fi S (g 0) 6 = m 12 := hT.2.1.2.1
  have h7 : sj_fi S (g 0) 7 = m 13 := hT.2.1.2.2
  have hRo := hT.2.2.2.2.1
  obtain ⟨h9, hn8⟩ := id hI.1
  have hN28 := hI.2.1.2
  have hv := sj_inv_oav hI
  refine sj_aload_n C 1 rfl dX6_mark_0 rfl rfl ?_
  refine sj_iload_n C 2 rfl dX6_mark_1 rfl rfl ?_
  refine sj_callVd C 5 rfl dX6_mark_2 cv_X6_83 rfl (ct_X6_isThere _ hW hI _) rfl rfl rfl ⟨_, _, kd_x, rfl, rfl, by decide⟩ ⟨rfl, rfl⟩ ?_
  refine sj_if_ne C 18 8 rfl rfl dX6_mark_5 (fun c_5 => ?_) (fun c_5 => ?_)
  · exact absurd c_5 (by rw [hb]; decide)
  · exact sj_throw C hR hl rfl sj_Ex_91 (wr_12 _ (List.mem_of_getElem? (i := 14) (by decide +kernel))) (wr_12 _ (List.mem_of_getElem? (i := 15) (by decide +kernel))) (text := "no such sheet") (by decide) dX6_mark_8 dX6_mark_11 dX6_mark_12 dX6_mark_14 dX6_mark_17 rfl (⟨sq_fr_id, hW⟩)
set_option maxRecDepth 100000 in
set_option maxHeartbeats 150000 in
theorem ct_X6_nearest_1 (l : Launch) {S : sj_St} {g : Nat → Nat} {m : Nat → Int32} {hs : Bool} {ms : Nat → Int32} {p q : Nat} {Q : Nat → Nat → Int32} {n : Nat} {B : Nat → Int32} (hW : sq_W S g m hs ms p q Q n B) (hI : sj_inv m) (hl : l.stackTraces = false) (v : Int32) (hb : sj_isn m v = false) : sj_CtX l mX6_nearest [.ref (g 141), .int v] S "java/lang/IndexOutOfBoundsException" (fun T => sq_fr (sq_Cl g) S T ∧ sq_W T g m hs ms p q Q n B) := by
  refine sj_startX ([some (.ref (g 141)), some (.int v)]) (by decide +kernel) rfl rfl (fun X hX C hR => ?_)
  subst hX
  obtain ⟨⟨⟨kd_x, rf_x_0, rf_x_1, rf_x_2, rf_x_3⟩, hTl, hHl, hinj⟩, ⟨hT, h4, hT1⟩, hK3, ⟨hH1, hp6, hH2, hq6, hQ⟩, hX, hB⟩ := id hW
  have kd_t := hT.1.1
  have rf_t_4 := hT.1.2.2.2.2.1.1
  have rf_t_5 := hT.1.2.2.2.2.2.1.1
  have hol := hT.1.2.2.2.2.1.2
  have kd_o := hol.1
  have hset := hT.1.2.2.2.2.2.1.2
  have kd_se := hset.1
  have kd_tx := hX.1
  have kd_hi := hHl.1
  have h3 : sj_fi S (g 0) 3 = m 9 := hT.2.1.1
  have h6 : sj_fi S (g 0) 6 = m 12 := hT.2.1.2.1
  have h7 : sj_fi S (g 0) 7 = m 13 := hT.2.1.2.2
  have hRo := hT.2.2.2.2.1
  obtain ⟨h9, hn8⟩ := id hI.1
  have hN28 := hI.2.1.2
  have hv := sj_inv_oav hI
  refine sj_aload_n C 1 rfl dX6_nearest_0 rfl rfl ?_
  refine sj_iload_n C 2 rfl dX6_nearest_1 rfl rfl ?_
  refine sj_callVd C 5 rfl dX6_nearest_2 cv_X6_83 rfl (ct_X6_isThere _ hW hI _) rfl rfl rfl ⟨_, _, kd_x, rfl, rfl, by decide⟩ ⟨rfl, rfl⟩ ?_
  refine sj_if_ne C 18 8 rfl rfl dX6_nearest_5 (fun c_5 => ?_) (fun c_5 => ?_)
  · exact absurd c_5 (by rw [hb]; decide)
  · exact sj_throw C hR hl rfl sj_Ex_91 (wr_12 _ (List.mem_of_getElem? (i := 14) (by decide +kernel))) (wr_12 _ (List.mem_of_getElem? (i := 15) (by decide +kernel))) (text := "no such sheet") (by decide) dX6_nearest_8 dX6_nearest_11 dX6_nearest_12 dX6_nearest_14 dX6_nearest_17 rfl (⟨sq_fr_id, hW⟩)
set_option maxRecDepth 100000 in
set_option maxHeartbeats 150000 in
theorem ct_X6_stroke_1 (l : Launch) {S : sj_St} {g : Nat → Nat} {m : Nat → Int32} {hs : Bool} {ms : Nat → Int32} {p q : Nat} {Q : Nat → Nat → Int32} {n : Nat} {B : Nat → Int32} (hW : sq_W S g m hs ms p q Q n B) (hI : sj_inv m) (hl : l.stackTraces = false) (v : Int32) (hb : sj_isn m v = false) (k : Int32) (w : Int32) : sj_CtX l mX6_stroke [.ref (g 141), .int v, .int k, .int w] S "java/lang/IndexOutOfBoundsException" (fun T => sq_fr (sq_Cl g) S T ∧ sq_W T g m hs ms p q Q n B) := by
  refine sj_startX ([some (.ref (g 141)), some (.int v), some (.int k), some (.int w)]) (by decide +kernel) rfl rfl (fun X hX C hR => ?_)
  subst hX
  obtain ⟨⟨⟨kd_x, rf_x_0, rf_x_1, rf_x_2, rf_x_3⟩, hTl, hHl, hinj⟩, ⟨hT, h4, hT1⟩, hK3, ⟨hH1, hp6, hH2, hq6, hQ⟩, hX, hB⟩ := id hW
  have kd_t := hT.1.1
  have rf_t_4 := hT.1.2.2.2.2.1.1
  have rf_t_5 := hT.1.2.2.2.2.2.1.1
  have hol := hT.1.2.2.2.2.1.2
  have kd_o := hol.1
  have hset := hT.1.2.2.2.2.2.1.2
  have kd_se := hset.1
  have kd_tx := hX.1
  have kd_hi := hHl.1
  have h3 : sj_fi S (g 0) 3 = m 9 := hT.2.1.1
  have h6 : sj_fi S (g 0) 6 = m 12 := hT.2.1.2.1
  have h7 : sj_fi S (g 0) 7 = m 13 := hT.2.1.2.2
  have hRo := hT.2.2.2.2.1
  obtain ⟨h9, hn8⟩ := id hI.1
  have hN28 := hI.2.1.2
  have hv := sj_inv_oav hI
  refine sj_aload_n C 1 rfl dX6_stroke_0 rfl rfl ?_
  refine sj_iload_n C 2 rfl dX6_stroke_1 rfl rfl ?_
  refine sj_callVd C 5 rfl dX6_stroke_2 cv_X6_83 rfl (ct_X6_isThere _ hW hI _) rfl rfl rfl ⟨_, _, kd_x, rfl, rfl, by decide⟩ ⟨rfl, rfl⟩ ?_
  refine sj_if_ne C 18 8 rfl rfl dX6_stroke_5 (fun c_5 => ?_) (fun c_5 => ?_)
  · exact absurd c_5 (by rw [hb]; decide)
  · exact sj_throw C hR hl rfl sj_Ex_91 (wr_12 _ (List.mem_of_getElem? (i := 14) (by decide +kernel))) (wr_12 _ (List.mem_of_getElem? (i := 15) (by decide +kernel))) (text := "no such sheet") (by decide) dX6_stroke_8 dX6_stroke_11 dX6_stroke_12 dX6_stroke_14 dX6_stroke_17 rfl (⟨sq_fr_id, hW⟩)
set_option maxRecDepth 100000 in
set_option maxHeartbeats 150000 in
theorem ct_X6_recant_1 (l : Launch) {S : sj_St} {g : Nat → Nat} {m : Nat → Int32} {hs : Bool} {ms : Nat → Int32} {p q : Nat} {Q : Nat → Nat → Int32} {n : Nat} {B : Nat → Int32} (hW : sq_W S g m hs ms p q Q n B) (hI : sj_inv m) (hl : l.stackTraces = false) (v e : Int32) (hb : sj_isn m v = false ∨ sj_isn m e = false) : sj_CtX l mX6_recant [.ref (g 141), .int v, .int e] S "java/lang/IndexOutOfBoundsException" (fun T => sq_fr (sq_Cl g) S T ∧ sq_W T g m hs ms p q Q n B) := by
  refine sj_startX ([some (.ref (g 141)), some (.int v), some (.int e), none]) (by decide +kernel) rfl rfl (fun X hX C hR => ?_)
  subst hX
  obtain ⟨⟨⟨kd_x, rf_x_0, rf_x_1, rf_x_2, rf_x_3⟩, hTl, hHl, hinj⟩, ⟨hT, h4, hT1⟩, hK3, ⟨hH1, hp6, hH2, hq6, hQ⟩, hX, hB⟩ := id hW
  have kd_t := hT.1.1
  have rf_t_4 := hT.1.2.2.2.2.1.1
  have rf_t_5 := hT.1.2.2.2.2.2.1.1
  have hol := hT.1.2.2.2.2.1.2
  have kd_o := hol.1
  have hset := hT.1.2.2.2.2.2.1.2
  have kd_se := hset.1
  have kd_tx := hX.1
  have kd_hi := hHl.1
  have h3 : sj_fi S (g 0) 3 = m 9 := hT.2.1.1
  have h6 : sj_fi S (g 0) 6 = m 12 := hT.2.1.2.1
  have h7 : sj_fi S (g 0) 7 = m 13 := hT.2.1.2.2
  have hRo := hT.2.2.2.2.1
  obtain ⟨h9, hn8⟩ := id hI.1
  have hN28 := hI.2.1.2
  have hv := sj_inv_oav hI
  have hb2 : (sj_isn m v && sj_isn m e) = false := by
    rcases hb with h | h
    · rw [h, Bool.false_and]
    · rw [h, Bool.and_false]
  refine sj_aload_n C 1 rfl dX6_recant_0 rfl rfl ?_
  refine sj_iload_n C 2 rfl dX6_recant_1 rfl rfl ?_
  refine sj_iload_n C 3 rfl dX6_recant_2 rfl rfl ?_
  refine sj_callVd C 6 rfl dX6_recant_3 cv_X6_121 rfl (ct_X6_areThere _ hW hI _ _) rfl rfl rfl ⟨_, _, kd_x, rfl, rfl, by decide⟩ ⟨rfl, rfl⟩ ?_
  refine sj_if_ne C 19 9 rfl rfl dX6_recant_6 (fun c_6 => ?_) (fun c_6 => ?_)
  · exact absurd c_6 (by rw [hb2]; decide)
  · exact sj_throw C hR hl rfl sj_Ex_91 (wr_12 _ (List.mem_of_getElem? (i := 14) (by decide +kernel))) (wr_12 _ (List.mem_of_getElem? (i := 15) (by decide +kernel))) (text := "no such sheet") (by decide) dX6_recant_9 dX6_recant_12 dX6_recant_13 dX6_recant_15 dX6_recant_18 rfl (⟨sq_fr_id, hW⟩)
set_option maxRecDepth 100000 in
set_option maxHeartbeats 150000 in
theorem ct_X6_compare_1 (l : Launch) {S : sj_St} {g : Nat → Nat} {m : Nat → Int32} {hs : Bool} {ms : Nat → Int32} {p q : Nat} {Q : Nat → Nat → Int32} {n : Nat} {B : Nat → Int32} (hW : sq_W S g m hs ms p q Q n B) (hI : sj_inv m) (hl : l.stackTraces = false) (v e : Int32) (hb : sj_isn m v = false ∨ sj_isn m e = false) (w : Int32) : sj_CtX l mX6_compare [.ref (g 141), .int v, .int e, .int w] S "java/lang/IndexOutOfBoundsException" (fun T => sq_fr (sq_Cl g) S T ∧ sq_W T g m hs ms p q Q n B) := by
  refine sj_startX ([some (.ref (g 141)), some (.int v), some (.int e), some (.int w)]) (by decide +kernel) rfl rfl (fun X hX C hR => ?_)
  subst hX
  obtain ⟨⟨⟨kd_x, rf_x_0, rf_x_1, rf_x_2, rf_x_3⟩, hTl, hHl, hinj⟩, ⟨hT, h4, hT1⟩, hK3, ⟨hH1, hp6, hH2, hq6, hQ⟩, hX, hB⟩ := id hW
  have kd_t := hT.1.1
  have rf_t_4 := hT.1.2.2.2.2.1.1
  have rf_t_5 := hT.1.2.2.2.2.2.1.1
  have hol := hT.1.2.2.2.2.1.2
  have kd_o := hol.1
  have hset := hT.1.2.2.2.2.2.1.2
  have kd_se := hset.1
  have kd_tx := hX.1
  have kd_hi := hHl.1
  have h3 : sj_fi S (g 0) 3 = m 9 := hT.2.1.1
  have h6 : sj_fi S (g 0) 6 = m 12 := hT.2.1.2.1
  have h7 : sj_fi S (g 0) 7 = m 13 := hT.2.1.2.2
  have hRo := hT.2.2.2.2.1
  obtain ⟨h9, hn8⟩ := id hI.1
  have hN28 := hI.2.1.2
  have hv := sj_inv_oav hI
  have hb2 : (sj_isn m v && sj_isn m e) = false := by
    rcases hb with h | h
    · rw [h, Bool.false_and]
    · rw [h, Bool.and_false]
  refine sj_aload_n C 1 rfl dX6_compare_0 rfl rfl ?_
  refine sj_iload_n C 2 rfl dX6_compare_1 rfl rfl ?_
  refine sj_iload_n C 3 rfl dX6_compare_2 rfl rfl ?_
  refine sj_callVd C 6 rfl dX6_compare_3 cv_X6_121 rfl (ct_X6_areThere _ hW hI _ _) rfl rfl rfl ⟨_, _, kd_x, rfl, rfl, by decide⟩ ⟨rfl, rfl⟩ ?_
  refine sj_if_ne C 19 9 rfl rfl dX6_compare_6 (fun c_6 => ?_) (fun c_6 => ?_)
  · exact absurd c_6 (by rw [hb2]; decide)
  · exact sj_throw C hR hl rfl sj_Ex_91 (wr_12 _ (List.mem_of_getElem? (i := 14) (by decide +kernel))) (wr_12 _ (List.mem_of_getElem? (i := 15) (by decide +kernel))) (text := "no such sheet") (by decide) dX6_compare_9 dX6_compare_12 dX6_compare_13 dX6_compare_15 dX6_compare_18 rfl (⟨sq_fr_id, hW⟩)
set_option maxRecDepth 100000 in
set_option maxHeartbeats 150000 in
theorem ct_X6_toleranceFor_1 (l : Launch) {S : sj_St} {g : Nat → Nat} {m : Nat → Int32} {hs : Bool} {ms : Nat → Int32} {p q : Nat} {Q : Nat → Nat → Int32} {n : Nat} {B : Nat → Int32} (hW : sq_W S g m hs ms p q Q n B) (hI : sj_inv m) (hl : l.stackTraces = false) (v e : Int32) (hb : sj_isn m v = false ∨ sj_isn m e = false) (w : Int32) : sj_CtX l mX6_toleranceFor [.ref (g 141), .int v, .int e, .int w] S "java/lang/IndexOutOfBoundsException" (fun T => sq_fr (sq_Cl g) S T ∧ sq_W T g m hs ms p q Q n B) := by
  refine sj_startX ([some (.ref (g 141)), some (.int v), some (.int e), some (.int w)]) (by decide +kernel) rfl rfl (fun X hX C hR => ?_)
  subst hX
  obtain ⟨⟨⟨kd_x, rf_x_0, rf_x_1, rf_x_2, rf_x_3⟩, hTl, hHl, hinj⟩, ⟨hT, h4, hT1⟩, hK3, ⟨hH1, hp6, hH2, hq6, hQ⟩, hX, hB⟩ := id hW
  have kd_t := hT.1.1
  have rf_t_4 := hT.1.2.2.2.2.1.1
  have rf_t_5 := hT.1.2.2.2.2.2.1.1
  have hol := hT.1.2.2.2.2.1.2
  have kd_o := hol.1
  have hset := hT.1.2.2.2.2.2.1.2
  have kd_se := hset.1
  have kd_tx := hX.1
  have kd_hi := hHl.1
  have h3 : sj_fi S (g 0) 3 = m 9 := hT.2.1.1
  have h6 : sj_fi S (g 0) 6 = m 12 := hT.2.1.2.1
  have h7 : sj_fi S (g 0) 7 = m 13 := hT.2.1.2.2
  have hRo := hT.2.2.2.2.1
  obtain ⟨h9, hn8⟩ := id hI.1
  have hN28 := hI.2.1.2
  have hv := sj_inv_oav hI
  have hb2 : (sj_isn m v && sj_isn m e) = false := by
    rcases hb with h | h
    · rw [h, Bool.false_and]
    · rw [h, Bool.and_false]
  refine sj_aload_n C 1 rfl dX6_toleranceFor_0 rfl rfl ?_
  refine sj_iload_n C 2 rfl dX6_toleranceFor_1 rfl rfl ?_
  refine sj_iload_n C 3 rfl dX6_toleranceFor_2 rfl rfl ?_
  refine sj_callVd C 6 rfl dX6_toleranceFor_3 cv_X6_121 rfl (ct_X6_areThere _ hW hI _ _) rfl rfl rfl ⟨_, _, kd_x, rfl, rfl, by decide⟩ ⟨rfl, rfl⟩ ?_
  refine sj_if_ne C 19 9 rfl rfl dX6_toleranceFor_6 (fun c_6 => ?_) (fun c_6 => ?_)
  · exact absurd c_6 (by rw [hb2]; decide)
  · exact sj_throw C hR hl rfl sj_Ex_91 (wr_12 _ (List.mem_of_getElem? (i := 14) (by decide +kernel))) (wr_12 _ (List.mem_of_getElem? (i := 15) (by decide +kernel))) (text := "no such sheet") (by decide) dX6_toleranceFor_9 dX6_toleranceFor_12 dX6_toleranceFor_13 dX6_toleranceFor_15 dX6_toleranceFor_18 rfl (⟨sq_fr_id, hW⟩)
set_option maxRecDepth 100000 in
set_option maxHeartbeats 150000 in
theorem ct_X6_ifPassed_1 (l : Launch) {S : sj_St} {g : Nat → Nat} {m : Nat → Int32} {hs : Bool} {ms : Nat → Int32} {p q : Nat} {Q : Nat → Nat → Int32} {n : Nat} {B : Nat → Int32} (hW : sq_W S g m hs ms p q Q n B) (hI : sj_inv m) (hl : l.stackTraces = false) (v e : Int32) (hb : sj_isn m v = false ∨ sj_isn m e = false) (w : Int32) : sj_CtX l mX6_ifPassed [.ref (g 141), .int v, .int e, .int w] S "java/lang/IndexOutOfBoundsException" (fun T => sq_fr (sq_Cl g) S T ∧ sq_W T g m hs ms p q Q n B) := by
  refine sj_startX ([some (.ref (g 141)), some (.int v), some (.int e), some (.int w)]) (by decide +kernel) rfl rfl (fun X hX C hR => ?_)
  subst hX
  obtain ⟨⟨⟨kd_x, rf_x_0, rf_x_1, rf_x_2, rf_x_3⟩, hTl, hHl, hinj⟩, ⟨hT, h4, hT1⟩, hK3, ⟨hH1, hp6, hH2, hq6, hQ⟩, hX, hB⟩ := id hW
  have kd_t := hT.1.1
  have rf_t_4 := hT.1.2.2.2.2.1.1
  have rf_t_5 := hT.1.2.2.2.2.2.1.1
  have hol := hT.1.2.2.2.2.1.2
  have kd_o := hol.1
  have hset := hT.1.2.2.2.2.2.1.2
  have kd_se := hset.1
  have kd_tx := hX.1
  have kd_hi := hHl.1
  have h3 : sj_fi S (g 0) 3 = m 9 := hT.2.1.1
  have h6 : sj_fi S (g 0) 6 = m 12 := hT.2.1.2.1
  have h7 : sj_fi S (g 0) 7 = m 13 := hT.2.1.2.2
  have hRo := hT.2.2.2.2.1
  obtain ⟨h9, hn8⟩ := id hI.1
  have hN28 := hI.2.1.2
  have hv := sj_inv_oav hI
  have hb2 : (sj_isn m v && sj_isn m e) = false := by
    rcases hb with h | h
    · rw [h, Bool.false_and]
    · rw [h, Bool.and_false]
  refine sj_aload_n C 1 rfl dX6_ifPassed_0 rfl rfl ?_
  refine sj_iload_n C 2 rfl dX6_ifPassed_1 rfl rfl ?_
  refine sj_iload_n C 3 rfl dX6_ifPassed_2 rfl rfl ?_
  refine sj_callVd C 6 rfl dX6_ifPassed_3 cv_X6_121 rfl (ct_X6_areThere _ hW hI _ _) rfl rfl rfl ⟨_, _, kd_x, rfl, rfl, by decide⟩ ⟨rfl, rfl⟩ ?_
  refine sj_if_ne C 19 9 rfl rfl dX6_ifPassed_6 (fun c_6 => ?_) (fun c_6 => ?_)
  · exact absurd c_6 (by rw [hb2]; decide)
  · exact sj_throw C hR hl rfl sj_Ex_91 (wr_12 _ (List.mem_of_getElem? (i := 14) (by decide +kernel))) (wr_12 _ (List.mem_of_getElem? (i := 15) (by decide +kernel))) (text := "no such sheet") (by decide) dX6_ifPassed_9 dX6_ifPassed_12 dX6_ifPassed_13 dX6_ifPassed_15 dX6_ifPassed_18 rfl (⟨sq_fr_id, hW⟩)
set_option maxRecDepth 100000 in
set_option maxHeartbeats 150000 in
theorem ct_X6_swear_1 (l : Launch) {S : sj_St} {g : Nat → Nat} {m : Nat → Int32} {hs : Bool} {ms : Nat → Int32} {p q : Nat} {Q : Nat → Nat → Int32} {n : Nat} {B : Nat → Int32} (hW : sq_W S g m hs ms p q Q n B) (hI : sj_inv m) (hl : l.stackTraces = false) (v e : Int32) (hb : sj_isn m v = false ∨ sj_isn m e = false) (like : Bool) : sj_CtX l mX6_swear [.ref (g 141), .int v, .int e, .int (sj_bi like)] S "java/lang/IndexOutOfBoundsException" (fun T => sq_fr (sq_Cl g) S T ∧ sq_W T g m hs ms p q Q n B) := by
  refine sj_startX ([some (.ref (g 141)), some (.int v), some (.int e), some (.int (sj_bi like))]) (by decide +kernel) rfl rfl (fun X hX C hR => ?_)
  subst hX
  obtain ⟨⟨⟨kd_x, rf_x_0, rf_x_1, rf_x_2, rf_x_3⟩, hTl, hHl, hinj⟩, ⟨hT, h4, hT1⟩, hK3, ⟨hH1, hp6, hH2, hq6, hQ⟩, hX, hB⟩ := id hW
  have kd_t := hT.1.1
  have rf_t_4 := hT.1.2.2.2.2.1.1
  have rf_t_5 := hT.1.2.2.2.2.2.1.1
  have hol := hT.1.2.2.2.2.1.2
  have kd_o := hol.1
  have hset := hT.1.2.2.2.2.2.1.2
  have kd_se := hset.1
  have kd_tx := hX.1
  have kd_hi := hHl.1
  have h3 : sj_fi S (g 0) 3 = m 9 := hT.2.1.1
  have h6 : sj_fi S (g 0) 6 = m 12 := hT.2.1.2.1
  have h7 : sj_fi S (g 0) 7 = m 13 := hT.2.1.2.2
  have hRo := hT.2.2.2.2.1
  obtain ⟨h9, hn8⟩ := id hI.1
  have hN28 := hI.2.1.2
  have hv := sj_inv_oav hI
  have hb2 : (sj_isn m v && sj_isn m e) = false := by
    rcases hb with h | h
    · rw [h, Bool.false_and]
    · rw [h, Bool.and_false]
  refine sj_aload_n C 1 rfl dX6_swear_0 rfl rfl ?_
  refine sj_iload_n C 2 rfl dX6_swear_1 rfl rfl ?_
  refine sj_iload_n C 3 rfl dX6_swear_2 rfl rfl ?_
  refine sj_callVd C 6 rfl dX6_swear_3 cv_X6_121 rfl (ct_X6_areThere _ hW hI _ _) rfl rfl rfl ⟨_, _, kd_x, rfl, rfl, by decide⟩ ⟨rfl, rfl⟩ ?_
  refine sj_if_ne C 19 9 rfl rfl dX6_swear_6 (fun c_6 => ?_) (fun c_6 => ?_)
  · exact absurd c_6 (by rw [hb2]; decide)
  · exact sj_throw C hR hl rfl sj_Ex_91 (wr_12 _ (List.mem_of_getElem? (i := 14) (by decide +kernel))) (wr_12 _ (List.mem_of_getElem? (i := 15) (by decide +kernel))) (text := "no such sheet") (by decide) dX6_swear_9 dX6_swear_12 dX6_swear_13 dX6_swear_15 dX6_swear_18 rfl (⟨sq_fr_id, hW⟩)
set_option maxRecDepth 100000 in
set_option maxHeartbeats 150000 in
theorem ct_X6_whyNot_1 (l : Launch) {S : sj_St} {g : Nat → Nat} {m : Nat → Int32} {hs : Bool} {ms : Nat → Int32} {p q : Nat} {Q : Nat → Nat → Int32} {n : Nat} {B : Nat → Int32} (hW : sq_W S g m hs ms p q Q n B) (hI : sj_inv m) (hl : l.stackTraces = false) (v e : Int32) (hb : sj_isn m v = false ∨ sj_isn m e = false) (like : Bool) : sj_CtX l mX6_whyNot [.ref (g 141), .int v, .int e, .int (sj_bi like)] S "java/lang/IndexOutOfBoundsException" (fun T => sq_fr (sq_Cl g) S T ∧ sq_W T g m hs ms p q Q n B) := by
  refine sj_startX ([some (.ref (g 141)), some (.int v), some (.int e), some (.int (sj_bi like))]) (by decide +kernel) rfl rfl (fun X hX C hR => ?_)
  subst hX
  obtain ⟨⟨⟨kd_x, rf_x_0, rf_x_1, rf_x_2, rf_x_3⟩, hTl, hHl, hinj⟩, ⟨hT, h4, hT1⟩, hK3, ⟨hH1, hp6, hH2, hq6, hQ⟩, hX, hB⟩ := id hW
  have kd_t := hT.1.1
  have rf_t_4 := hT.1.2.2.2.2.1.1
  have rf_t_5 := hT.1.2.2.2.2.2.1.1
  have hol := hT.1.2.2.2.2.1.2
  have kd_o := hol.1
  have hset := hT.1.2.2.2.2.2.1.2
  have kd_se := hset.1
  have kd_tx := hX.1
  have kd_hi := hHl.1
  have h3 : sj_fi S (g 0) 3 = m 9 := hT.2.1.1
  have h6 : sj_fi S (g 0) 6 = m 12 := hT.2.1.2.1
  have h7 : sj_fi S (g 0) 7 = m 13 := hT.2.1.2.2
  have hRo := hT.2.2.2.2.1
  obtain ⟨h9, hn8⟩ := id hI.1
  have hN28 := hI.2.1.2
  have hv := sj_inv_oav hI
  have hb2 : (sj_isn m v && sj_isn m e) = false := by
    rcases hb with h | h
    · rw [h, Bool.false_and]
    · rw [h, Bool.and_false]
  refine sj_aload_n C 1 rfl dX6_whyNot_0 rfl rfl ?_
  refine sj_iload_n C 2 rfl dX6_whyNot_1 rfl rfl ?_
  refine sj_iload_n C 3 rfl dX6_whyNot_2 rfl rfl ?_
  refine sj_callVd C 6 rfl dX6_whyNot_3 cv_X6_121 rfl (ct_X6_areThere _ hW hI _ _) rfl rfl rfl ⟨_, _, kd_x, rfl, rfl, by decide⟩ ⟨rfl, rfl⟩ ?_
  refine sj_if_ne C 19 9 rfl rfl dX6_whyNot_6 (fun c_6 => ?_) (fun c_6 => ?_)
  · exact absurd c_6 (by rw [hb2]; decide)
  · exact sj_throw C hR hl rfl sj_Ex_91 (wr_12 _ (List.mem_of_getElem? (i := 14) (by decide +kernel))) (wr_12 _ (List.mem_of_getElem? (i := 15) (by decide +kernel))) (text := "no such sheet") (by decide) dX6_whyNot_9 dX6_whyNot_12 dX6_whyNot_13 dX6_whyNot_15 dX6_whyNot_18 rfl (⟨sq_fr_id, hW⟩)
set_option maxRecDepth 100000 in
set_option maxHeartbeats 150000 in
theorem ct_X6_sheet_2 (l : Launch) {S : sj_St} {g : Nat → Nat} {m : Nat → Int32} {hs : Bool} {ms : Nat → Int32} {p q : Nat} {Q : Nat → Nat → Int32} {n : Nat} {B : Nat → Int32} (hW : sq_W S g m hs ms p q Q n B) (hI : sj_inv m) (hl : l.stackTraces = false) (v : Int32) (hsv : sj_isn m v = true) (w : Int32) (hb : sj_wi w 0 6 = false) : sj_CtX l mX6_sheet [.ref (g 141), .int v, .int w] S "java/lang/IllegalArgumentException" (fun T => sq_fr (sq_Cl g) S T ∧ sq_W T g m hs ms p q Q n B) := by
  refine sj_startX ([some (.ref (g 141)), some (.int v), some (.int w)]) (by decide +kernel) rfl rfl (fun X hX C hR => ?_)
  subst hX
  obtain ⟨⟨⟨kd_x, rf_x_0, rf_x_1, rf_x_2, rf_x_3⟩, hTl, hHl, hinj⟩, ⟨hT, h4, hT1⟩, hK3, ⟨hH1, hp6, hH2, hq6, hQ⟩, hX, hB⟩ := id hW
  have kd_t := hT.1.1
  have rf_t_4 := hT.1.2.2.2.2.1.1
  have rf_t_5 := hT.1.2.2.2.2.2.1.1
  have hol := hT.1.2.2.2.2.1.2
  have kd_o := hol.1
  have hset := hT.1.2.2.2.2.2.1.2
  have kd_se := hset.1
  have kd_tx := hX.1
  have kd_hi := hHl.1
  have h3 : sj_fi S (g 0) 3 = m 9 := hT.2.1.1
  have h6 : sj_fi S (g 0) 6 = m 12 := hT.2.1.2.1
  have h7 : sj_fi S (g 0) 7 = m 13 := hT.2.1.2.2
  have hRo := hT.2.2.2.2.1
  obtain ⟨h9, hn8⟩ := id hI.1
  have hN28 := hI.2.1.2
  have hv := sj_inv_oav hI
  refine sj_aload_n C 1 rfl dX6_sheet_0 rfl rfl ?_
  refine sj_iload_n C 2 rfl dX6_sheet_1 rfl rfl ?_
  refine sj_callVd C 5 rfl dX6_sheet_2 cv_X6_83 rfl (ct_X6_isThere _ hW hI _) rfl rfl rfl ⟨_, _, kd_x, rfl, rfl, by decide⟩ ⟨rfl, rfl⟩ ?_
  refine sj_if_ne C 18 8 rfl rfl dX6_sheet_5 (fun c_5 => ?_) (fun c_5 => ?_)
  · refine sj_iload_n C 19 rfl dX6_sheet_18 rfl rfl ?_
    refine sj_if_lt C 28 22 rfl rfl dX6_sheet_19 (fun c_19 => ?_) (fun c_19 => ?_)
    · exact sj_throw C hR hl rfl sj_Ex_45 (wr_6 _ (List.mem_of_getElem? (i := 21) (by decide +kernel))) (wr_6 _ (List.mem_of_getElem? (i := 22) (by decide +kernel))) (text := "what is 0 to 6") (by decide) dX6_sheet_28 dX6_sheet_31 dX6_sheet_32 dX6_sheet_34 dX6_sheet_37 rfl (⟨sq_fr_id, hW⟩)
    · refine sj_iload_n C 23 rfl dX6_sheet_22 rfl rfl ?_
      refine sj_bipush C (7) 25 rfl dX6_sheet_23 (by decide) ?_
      refine sj_icmp_lt C 38 28 rfl rfl dX6_sheet_25 (fun c_25 => ?_) (fun c_25 => ?_)
      · exact sq_tf hb (sq_wil (k := 6) (by omega) c_19 c_25)
      · exact sj_throw C hR hl rfl sj_Ex_45 (wr_6 _ (List.mem_of_getElem? (i := 21) (by decide +kernel))) (wr_6 _ (List.mem_of_getElem? (i := 22) (by decide +kernel))) (text := "what is 0 to 6") (by decide) dX6_sheet_28 dX6_sheet_31 dX6_sheet_32 dX6_sheet_34 dX6_sheet_37 rfl (⟨sq_fr_id, hW⟩)
  · exact absurd c_5 (by rw [hsv]; decide)
set_option maxRecDepth 100000 in
set_option maxHeartbeats 150000 in
theorem ct_X6_mark_2 (l : Launch) {S : sj_St} {g : Nat → Nat} {m : Nat → Int32} {hs : Bool} {ms : Nat → Int32} {p q : Nat} {Q : Nat → Nat → Int32} {n : Nat} {B : Nat → Int32} (hW : sq_W S g m hs ms p q Q n B) (hI : sj_inv m) (hl : l.stackTraces = false) (v : Int32) (hsv : sj_isn m v = true) (w : Int32) (hb : sj_wi w 0 5 = false) : sj_CtX l mX6_mark [.ref (g 141), .int v, .int w] S "java/lang/IllegalArgumentException" (fun T => sq_fr (sq_Cl g) S T ∧ sq_W T g m hs ms p q Q n B) := by
  refine sj_startX ([some (.ref (g 141)), some (.int v), some (.int w)]) (by decide +kernel) rfl rfl (fun X hX C hR => ?_)
  subst hX
  obtain ⟨⟨⟨kd_x, rf_x_0, rf_x_1, rf_x_2, rf_x_3⟩, hTl, hHl, hinj⟩, ⟨hT, h4, hT1⟩, hK3, ⟨hH1, hp6, hH2, hq6, hQ⟩, hX, hB⟩ := id hW
  have kd_t := hT.1.1
  have rf_t_4 := hT.1.2.2.2.2.1.1
  have rf_t_5 := hT.1.2.2.2.2.2.1.1
  have hol := hT.1.2.2.2.2.1.2
  have kd_o := hol.1
  have hset := hT.1.2.2.2.2.2.1.2
  have kd_se := hset.1
  have kd_tx := hX.1
  have kd_hi := hHl.1
  have h3 : sj_fi S (g 0) 3 = m 9 := hT.2.1.1
  have h6 : sj_fi S (g 0) 6 = m 12 := hT.2.1.2.1
  have h7 : sj_fi S (g 0) 7 = m 13 := hT.2.1.2.2
  have hRo := hT.2.2.2.2.1
  obtain ⟨h9, hn8⟩ := id hI.1
  have hN28 := hI.2.1.2
  have hv := sj_inv_oav hI
  refine sj_aload_n C 1 rfl dX6_mark_0 rfl rfl ?_
  refine sj_iload_n C 2 rfl dX6_mark_1 rfl rfl ?_
  refine sj_callVd C 5 rfl dX6_mark_2 cv_X6_83 rfl (ct_X6_isThere _ hW hI _) rfl rfl rfl ⟨_, _, kd_x, rfl, rfl, by decide⟩ ⟨rfl, rfl⟩ ?_
  refine sj_if_ne C 18 8 rfl rfl dX6_mark_5 (fun c_5 => ?_) (fun c_5 => ?_)
  · refine sj_iload_n C 19 rfl dX6_mark_18 rfl rfl ?_
    refine sj_if_lt C 28 22 rfl rfl dX6_mark_19 (fun c_19 => ?_) (fun c_19 => ?_)
    · exact sj_throw C hR hl rfl sj_Ex_45 (wr_6 _ (List.mem_of_getElem? (i := 21) (by decide +kernel))) (wr_6 _ (List.mem_of_getElem? (i := 22) (by decide +kernel))) (text := "marks are 0 to 5") (by decide) dX6_mark_28 dX6_mark_31 dX6_mark_32 dX6_mark_34 dX6_mark_37 rfl (⟨sq_fr_id, hW⟩)
    · refine sj_iload_n C 23 rfl dX6_mark_22 rfl rfl ?_
      refine sj_bipush C (6) 25 rfl dX6_mark_23 (by decide) ?_
      refine sj_icmp_lt C 38 28 rfl rfl dX6_mark_25 (fun c_25 => ?_) (fun c_25 => ?_)
      · exact sq_tf hb (sq_wil (k := 5) (by omega) c_19 c_25)
      · exact sj_throw C hR hl rfl sj_Ex_45 (wr_6 _ (List.mem_of_getElem? (i := 21) (by decide +kernel))) (wr_6 _ (List.mem_of_getElem? (i := 22) (by decide +kernel))) (text := "marks are 0 to 5") (by decide) dX6_mark_28 dX6_mark_31 dX6_mark_32 dX6_mark_34 dX6_mark_37 rfl (⟨sq_fr_id, hW⟩)
  · exact absurd c_5 (by rw [hsv]; decide)
set_option maxRecDepth 100000 in
set_option maxHeartbeats 150000 in
theorem ct_X6_stroke_2 (l : Launch) {S : sj_St} {g : Nat → Nat} {m : Nat → Int32} {hs : Bool} {ms : Nat → Int32} {p q : Nat} {Q : Nat → Nat → Int32} {n : Nat} {B : Nat → Int32} (hW : sq_W S g m hs ms p q Q n B) (hI : sj_inv m) (hl : l.stackTraces = false) (v : Int32) (hsv : sj_isn m v = true) (k w : Int32) (hb : sj_wi k 0 7 = false ∨ sj_wi w 0 4 = false) : sj_CtX l mX6_stroke [.ref (g 141), .int v, .int k, .int w] S "java/lang/IllegalArgumentException" (fun T => sq_fr (sq_Cl g) S T ∧ sq_W T g m hs ms p q Q n B) := by
  refine sj_startX ([some (.ref (g 141)), some (.int v), some (.int k), some (.int w)]) (by decide +kernel) rfl rfl (fun X hX C hR => ?_)
  subst hX
  obtain ⟨⟨⟨kd_x, rf_x_0, rf_x_1, rf_x_2, rf_x_3⟩, hTl, hHl, hinj⟩, ⟨hT, h4, hT1⟩, hK3, ⟨hH1, hp6, hH2, hq6, hQ⟩, hX, hB⟩ := id hW
  have kd_t := hT.1.1
  have rf_t_4 := hT.1.2.2.2.2.1.1
  have rf_t_5 := hT.1.2.2.2.2.2.1.1
  have hol := hT.1.2.2.2.2.1.2
  have kd_o := hol.1
  have hset := hT.1.2.2.2.2.2.1.2
  have kd_se := hset.1
  have kd_tx := hX.1
  have kd_hi := hHl.1
  have h3 : sj_fi S (g 0) 3 = m 9 := hT.2.1.1
  have h6 : sj_fi S (g 0) 6 = m 12 := hT.2.1.2.1
  have h7 : sj_fi S (g 0) 7 = m 13 := hT.2.1.2.2
  have hRo := hT.2.2.2.2.1
  obtain ⟨h9, hn8⟩ := id hI.1
  have hN28 := hI.2.1.2
  have hv := sj_inv_oav hI
  refine sj_aload_n C 1 rfl dX6_stroke_0 rfl rfl ?_
  refine sj_iload_n C 2 rfl dX6_stroke_1 rfl rfl ?_
  refine sj_callVd C 5 rfl dX6_stroke_2 cv_X6_83 rfl (ct_X6_isThere _ hW hI _) rfl rfl rfl ⟨_, _, kd_x, rfl, rfl, by decide⟩ ⟨rfl, rfl⟩ ?_
  refine sj_if_ne C 18 8 rfl rfl dX6_stroke_5 (fun c_5 => ?_) (fun c_5 => ?_)
  · refine sj_iload_n C 19 rfl dX6_stroke_18 rfl rfl ?_
    refine sj_if_lt C 37 22 rfl rfl dX6_stroke_19 (fun c_19 => ?_) (fun c_19 => ?_)
    · exact sj_throw C hR hl rfl sj_Ex_45 (wr_6 _ (List.mem_of_getElem? (i := 21) (by decide +kernel))) (wr_6 _ (List.mem_of_getElem? (i := 22) (by decide +kernel))) (text := "strokes are 0 to 7, what is 0 to 4") (by decide) dX6_stroke_37 dX6_stroke_40 dX6_stroke_41 dX6_stroke_43 dX6_stroke_46 rfl (⟨sq_fr_id, hW⟩)
    · refine sj_iload_n C 23 rfl dX6_stroke_22 rfl rfl ?_
      refine sj_bipush C (8) 25 rfl dX6_stroke_23 (by decide) ?_
      refine sj_icmp_ge C 37 28 rfl rfl dX6_stroke_25 (fun c_25 => ?_) (fun c_25 => ?_)
      · exact sj_throw C hR hl rfl sj_Ex_45 (wr_6 _ (List.mem_of_getElem? (i := 21) (by decide +kernel))) (wr_6 _ (List.mem_of_getElem? (i := 22) (by decide +kernel))) (text := "strokes are 0 to 7, what is 0 to 4") (by decide) dX6_stroke_37 dX6_stroke_40 dX6_stroke_41 dX6_stroke_43 dX6_stroke_46 rfl (⟨sq_fr_id, hW⟩)
      · refine sj_iload_n C 29 rfl dX6_stroke_28 rfl rfl ?_
        refine sj_if_lt C 37 32 rfl rfl dX6_stroke_29 (fun c_29 => ?_) (fun c_29 => ?_)
        · exact sj_throw C hR hl rfl sj_Ex_45 (wr_6 _ (List.mem_of_getElem? (i := 21) (by decide +kernel))) (wr_6 _ (List.mem_of_getElem? (i := 22) (by decide +kernel))) (text := "strokes are 0 to 7, what is 0 to 4") (by decide) dX6_stroke_37 dX6_stroke_40 dX6_stroke_41 dX6_stroke_43 dX6_stroke_46 rfl (⟨sq_fr_id, hW⟩)
        · refine sj_iload_n C 33 rfl dX6_stroke_32 rfl rfl ?_
          refine sj_iconstv C (5) 34 rfl dX6_stroke_33 rfl ?_
          refine sj_icmp_lt C 47 37 rfl rfl dX6_stroke_34 (fun c_34 => ?_) (fun c_34 => ?_)
          · exact hb.elim (fun h => sq_tf h (sq_wil (k := 7) (by omega) c_19 (Int32.not_le.mp c_25))) (fun h => sq_tf h (sq_wil (k := 4) (by omega) c_29 c_34))
          · exact sj_throw C hR hl rfl sj_Ex_45 (wr_6 _ (List.mem_of_getElem? (i := 21) (by decide +kernel))) (wr_6 _ (List.mem_of_getElem? (i := 22) (by decide +kernel))) (text := "strokes are 0 to 7, what is 0 to 4") (by decide) dX6_stroke_37 dX6_stroke_40 dX6_stroke_41 dX6_stroke_43 dX6_stroke_46 rfl (⟨sq_fr_id, hW⟩)
  · exact absurd c_5 (by rw [hsv]; decide)
set_option maxRecDepth 100000 in
set_option maxHeartbeats 150000 in
theorem ct_X6_compare_2 (l : Launch) {S : sj_St} {g : Nat → Nat} {m : Nat → Int32} {hs : Bool} {ms : Nat → Int32} {p q : Nat} {Q : Nat → Nat → Int32} {n : Nat} {B : Nat → Int32} (hW : sq_W S g m hs ms p q Q n B) (hI : sj_inv m) (hl : l.stackTraces = false) (v e : Int32) (hsv : sj_isn m v = true) (hsw : sj_isn m e = true) (w : Int32) (hb : sj_wi w 0 4 = false) : sj_CtX l mX6_compare [.ref (g 141), .int v, .int e, .int w] S "java/lang/IllegalArgumentException" (fun T => sq_fr (sq_Cl g) S T ∧ sq_W T g m hs ms p q Q n B) := by
  refine sj_startX ([some (.ref (g 141)), some (.int v), some (.int e), some (.int w)]) (by decide +kernel) rfl rfl (fun X hX C hR => ?_)
  subst hX
  obtain ⟨⟨⟨kd_x, rf_x_0, rf_x_1, rf_x_2, rf_x_3⟩, hTl, hHl, hinj⟩, ⟨hT, h4, hT1⟩, hK3, ⟨hH1, hp6, hH2, hq6, hQ⟩, hX, hB⟩ := id hW
  have kd_t := hT.1.1
  have rf_t_4 := hT.1.2.2.2.2.1.1
  have rf_t_5 := hT.1.2.2.2.2.2.1.1
  have hol := hT.1.2.2.2.2.1.2
  have kd_o := hol.1
  have hset := hT.1.2.2.2.2.2.1.2
  have kd_se := hset.1
  have kd_tx := hX.1
  have kd_hi := hHl.1
  have h3 : sj_fi S (g 0) 3 = m 9 := hT.2.1.1
  have h6 : sj_fi S (g 0) 6 = m 12 := hT.2.1.2.1
  have h7 : sj_fi S (g 0) 7 = m 13 := hT.2.1.2.2
  have hRo := hT.2.2.2.2.1
  obtain ⟨h9, hn8⟩ := id hI.1
  have hN28 := hI.2.1.2
  have hv := sj_inv_oav hI
  refine sj_aload_n C 1 rfl dX6_compare_0 rfl rfl ?_
  refine sj_iload_n C 2 rfl dX6_compare_1 rfl rfl ?_
  refine sj_iload_n C 3 rfl dX6_compare_2 rfl rfl ?_
  refine sj_callVd C 6 rfl dX6_compare_3 cv_X6_121 rfl (ct_X6_areThere _ hW hI _ _) rfl rfl rfl ⟨_, _, kd_x, rfl, rfl, by decide⟩ ⟨rfl, rfl⟩ ?_
  refine sj_if_ne C 19 9 rfl rfl dX6_compare_6 (fun c_6 => ?_) (fun c_6 => ?_)
  · refine sj_iload_n C 20 rfl dX6_compare_19 rfl rfl ?_
    refine sj_if_lt C 28 23 rfl rfl dX6_compare_20 (fun c_20 => ?_) (fun c_20 => ?_)
    · exact sj_throw C hR hl rfl sj_Ex_45 (wr_6 _ (List.mem_of_getElem? (i := 21) (by decide +kernel))) (wr_6 _ (List.mem_of_getElem? (i := 22) (by decide +kernel))) (text := "what is 0 to 4") (by decide) dX6_compare_28 dX6_compare_31 dX6_compare_32 dX6_compare_34 dX6_compare_37 rfl (⟨sq_fr_id, hW⟩)
    · refine sj_iload_n C 24 rfl dX6_compare_23 rfl rfl ?_
      refine sj_iconstv C (5) 25 rfl dX6_compare_24 rfl ?_
      refine sj_icmp_lt C 38 28 rfl rfl dX6_compare_25 (fun c_25 => ?_) (fun c_25 => ?_)
      · exact sq_tf hb (sq_wil (k := 4) (by omega) c_20 c_25)
      · exact sj_throw C hR hl rfl sj_Ex_45 (wr_6 _ (List.mem_of_getElem? (i := 21) (by decide +kernel))) (wr_6 _ (List.mem_of_getElem? (i := 22) (by decide +kernel))) (text := "what is 0 to 4") (by decide) dX6_compare_28 dX6_compare_31 dX6_compare_32 dX6_compare_34 dX6_compare_37 rfl (⟨sq_fr_id, hW⟩)
  · exact absurd c_6 (by rw [hsv, hsw]; decide)
set_option maxRecDepth 100000 in
set_option maxHeartbeats 150000 in
theorem ct_X6_toleranceFor_2 (l : Launch) {S : sj_St} {g : Nat → Nat} {m : Nat → Int32} {hs : Bool} {ms : Nat → Int32} {p q : Nat} {Q : Nat → Nat → Int32} {n : Nat} {B : Nat → Int32} (hW : sq_W S g m hs ms p q Q n B) (hI : sj_inv m) (hl : l.stackTraces = false) (v e : Int32) (hsv : sj_isn m v = true) (hsw : sj_isn m e = true) (w : Int32) (hb : sj_wi w 0 5 = false) : sj_CtX l mX6_toleranceFor [.ref (g 141), .int v, .int e, .int w] S "java/lang/IllegalArgumentException" (fun T => sq_fr (sq_Cl g) S T ∧ sq_W T g m hs ms p q Q n B) := by
  refine sj_startX ([some (.ref (g 141)), some (.int v), some (.int e), some (.int w)]) (by decide +kernel) rfl rfl (fun X hX C hR => ?_)
  subst hX
  obtain ⟨⟨⟨kd_x, rf_x_0, rf_x_1, rf_x_2, rf_x_3⟩, hTl, hHl, hinj⟩, ⟨hT, h4, hT1⟩, hK3, ⟨hH1, hp6, hH2, hq6, hQ⟩, hX, hB⟩ := id hW
  have kd_t := hT.1.1
  have rf_t_4 := hT.1.2.2.2.2.1.1
  have rf_t_5 := hT.1.2.2.2.2.2.1.1
  have hol := hT.1.2.2.2.2.1.2
  have kd_o := hol.1
  have hset := hT.1.2.2.2.2.2.1.2
  have kd_se := hset.1
  have kd_tx := hX.1
  have kd_hi := hHl.1
  have h3 : sj_fi S (g 0) 3 = m 9 := hT.2.1.1
  have h6 : sj_fi S (g 0) 6 = m 12 := hT.2.1.2.1
  have h7 : sj_fi S (g 0) 7 = m 13 := hT.2.1.2.2
  have hRo := hT.2.2.2.2.1
  obtain ⟨h9, hn8⟩ := id hI.1
  have hN28 := hI.2.1.2
  have hv := sj_inv_oav hI
  refine sj_aload_n C 1 rfl dX6_toleranceFor_0 rfl rfl ?_
  refine sj_iload_n C 2 rfl dX6_toleranceFor_1 rfl rfl ?_
  refine sj_iload_n C 3 rfl dX6_toleranceFor_2 rfl rfl ?_
  refine sj_callVd C 6 rfl dX6_toleranceFor_3 cv_X6_121 rfl (ct_X6_areThere _ hW hI _ _) rfl rfl rfl ⟨_, _, kd_x, rfl, rfl, by decide⟩ ⟨rfl, rfl⟩ ?_
  refine sj_if_ne C 19 9 rfl rfl dX6_toleranceFor_6 (fun c_6 => ?_) (fun c_6 => ?_)
  · refine sj_iload_n C 20 rfl dX6_toleranceFor_19 rfl rfl ?_
    refine sj_if_lt C 29 23 rfl rfl dX6_toleranceFor_20 (fun c_20 => ?_) (fun c_20 => ?_)
    · exact sj_throw C hR hl rfl sj_Ex_45 (wr_6 _ (List.mem_of_getElem? (i := 21) (by decide +kernel))) (wr_6 _ (List.mem_of_getElem? (i := 22) (by decide +kernel))) (text := "marks are 0 to 5") (by decide) dX6_toleranceFor_29 dX6_toleranceFor_32 dX6_toleranceFor_33 dX6_toleranceFor_35 dX6_toleranceFor_38 rfl (⟨sq_fr_id, hW⟩)
    · refine sj_iload_n C 24 rfl dX6_toleranceFor_23 rfl rfl ?_
      refine sj_bipush C (6) 26 rfl dX6_toleranceFor_24 (by decide) ?_
      refine sj_icmp_lt C 39 29 rfl rfl dX6_toleranceFor_26 (fun c_26 => ?_) (fun c_26 => ?_)
      · exact sq_tf hb (sq_wil (k := 5) (by omega) c_20 c_26)
      · exact sj_throw C hR hl rfl sj_Ex_45 (wr_6 _ (List.mem_of_getElem? (i := 21) (by decide +kernel))) (wr_6 _ (List.mem_of_getElem? (i := 22) (by decide +kernel))) (text := "marks are 0 to 5") (by decide) dX6_toleranceFor_29 dX6_toleranceFor_32 dX6_toleranceFor_33 dX6_toleranceFor_35 dX6_toleranceFor_38 rfl (⟨sq_fr_id, hW⟩)
  · exact absurd c_6 (by rw [hsv, hsw]; decide)
set_option maxRecDepth 100000 in
set_option maxHeartbeats 150000 in
theorem ct_X6_ifPassed_2 (l : Launch) {S : sj_St} {g : Nat → Nat} {m : Nat → Int32} {hs : Bool} {ms : Nat → Int32} {p q : Nat} {Q : Nat → Nat → Int32} {n : Nat} {B : Nat → Int32} (hW : sq_W S g m hs ms p q Q n B) (hI : sj_inv m) (hl : l.stackTraces = false) (v e : Int32) (hsv : sj_isn m v = true) (hsw : sj_isn m e = true) (y : Int32) (hb : sj_wi y 1 99 = false) : sj_CtX l mX6_ifPassed [.ref (g 141), .int v, .int e, .int y] S "java/lang/IllegalArgumentException" (fun T => sq_fr (sq_Cl g) S T ∧ sq_W T g m hs ms p q Q n B) := by
  refine sj_startX ([some (.ref (g 141)), some (.int v), some (.int e), some (.int y)]) (by decide +kernel) rfl rfl (fun X hX C hR => ?_)
  subst hX
  obtain ⟨⟨⟨kd_x, rf_x_0, rf_x_1, rf_x_2, rf_x_3⟩, hTl, hHl, hinj⟩, ⟨hT, h4, hT1⟩, hK3, ⟨hH1, hp6, hH2, hq6, hQ⟩, hX, hB⟩ := id hW
  have kd_t := hT.1.1
  have rf_t_4 := hT.1.2.2.2.2.1.1
  have rf_t_5 := hT.1.2.2.2.2.2.1.1
  have hol := hT.1.2.2.2.2.1.2
  have kd_o := hol.1
  have hset := hT.1.2.2.2.2.2.1.2
  have kd_se := hset.1
  have kd_tx := hX.1
  have kd_hi := hHl.1
  have h3 : sj_fi S (g 0) 3 = m 9 := hT.2.1.1
  have h6 : sj_fi S (g 0) 6 = m 12 := hT.2.1.2.1
  have h7 : sj_fi S (g 0) 7 = m 13 := hT.2.1.2.2
  have hRo := hT.2.2.2.2.1
  obtain ⟨h9, hn8⟩ := id hI.1
  have hN28 := hI.2.1.2
  have hv := sj_inv_oav hI
  refine sj_aload_n C 1 rfl dX6_ifPassed_0 rfl rfl ?_
  refine sj_iload_n C 2 rfl dX6_ifPassed_1 rfl rfl ?_
  refine sj_iload_n C 3 rfl dX6_ifPassed_2 rfl rfl ?_
  refine sj_callVd C 6 rfl dX6_ifPassed_3 cv_X6_121 rfl (ct_X6_areThere _ hW hI _ _) rfl rfl rfl ⟨_, _, kd_x, rfl, rfl, by decide⟩ ⟨rfl, rfl⟩ ?_
  refine sj_if_ne C 19 9 rfl rfl dX6_ifPassed_6 (fun c_6 => ?_) (fun c_6 => ?_)
  · refine sj_iload_n C 20 rfl dX6_ifPassed_19 rfl rfl ?_
    refine sj_iconstv C (1) 21 rfl dX6_ifPassed_20 rfl ?_
    refine sj_icmp_lt C 30 24 rfl rfl dX6_ifPassed_21 (fun c_21 => ?_) (fun c_21 => ?_)
    · exact sj_throw C hR hl rfl sj_Ex_45 (wr_6 _ (List.mem_of_getElem? (i := 21) (by decide +kernel))) (wr_6 _ (List.mem_of_getElem? (i := 22) (by decide +kernel))) (text := "years are 1 to 99") (by decide) dX6_ifPassed_30 dX6_ifPassed_33 dX6_ifPassed_34 dX6_ifPassed_36 dX6_ifPassed_39 rfl (⟨sq_fr_id, hW⟩)
    · refine sj_iload_n C 25 rfl dX6_ifPassed_24 rfl rfl ?_
      refine sj_bipush C (99) 27 rfl dX6_ifPassed_25 (by decide) ?_
      refine sj_icmp_le C 40 30 rfl rfl dX6_ifPassed_27 (fun c_27 => ?_) (fun c_27 => ?_)
      · exact sq_tf hb (sj_wi_in c_21 (Int32.not_lt.mpr c_27))
      · exact sj_throw C hR hl rfl sj_Ex_45 (wr_6 _ (List.mem_of_getElem? (i := 21) (by decide +kernel))) (wr_6 _ (List.mem_of_getElem? (i := 22) (by decide +kernel))) (text := "years are 1 to 99") (by decide) dX6_ifPassed_30 dX6_ifPassed_33 dX6_ifPassed_34 dX6_ifPassed_36 dX6_ifPassed_39 rfl (⟨sq_fr_id, hW⟩)
  · exact absurd c_6 (by rw [hsv, hsw]; decide)
set_option maxRecDepth 100000 in
set_option maxHeartbeats 150000 in
theorem ct_X6_pass_1 (l : Launch) {S : sj_St} {g : Nat → Nat} {m : Nat → Int32} {hs : Bool} {ms : Nat → Int32} {p q : Nat} {Q : Nat → Nat → Int32} {n : Nat} {B : Nat → Int32} (hW : sq_W S g m hs ms p q Q n B) (hI : sj_inv m) (hl : l.stackTraces = false) (y : Int32) (hb : sj_wi y 1 99 = false) : sj_CtX l mX6_pass [.ref (g 141), .int y] S "java/lang/IllegalArgumentException" (fun T => sq_fr (sq_Cl g) S T ∧ sq_W T g m hs ms p q Q n B) := by
  refine sj_startX ([some (.ref (g 141)), some (.int y)]) (by decide +kernel) rfl rfl (fun X hX C hR => ?_)
  subst hX
  obtain ⟨⟨⟨kd_x, rf_x_0, rf_x_1, rf_x_2, rf_x_3⟩, hTl, hHl, hinj⟩, ⟨hT, h4, hT1⟩, hK3, ⟨hH1, hp6, hH2, hq6, hQ⟩, hX, hB⟩ := id hW
  have kd_t := hT.1.1
  have rf_t_4 := hT.1.2.2.2.2.1.1
  have rf_t_5 := hT.1.2.2.2.2.2.1.1
  have hol := hT.1.2.2.2.2.1.2
  have kd_o := hol.1
  have hset := hT.1.2.2.2.2.2.1.2
  have kd_se := hset.1
  have kd_tx := hX.1
  have kd_hi := hHl.1
  have h3 : sj_fi S (g 0) 3 = m 9 := hT.2.1.1
  have h6 : sj_fi S (g 0) 6 = m 12 := hT.2.1.2.1
  have h7 : sj_fi S (g 0) 7 = m 13 := hT.2.1.2.2
  have hRo := hT.2.2.2.2.1
  obtain ⟨h9, hn8⟩ := id hI.1
  have hN28 := hI.2.1.2
  have hv := sj_inv_oav hI
  refine sj_iload_n C 1 rfl dX6_pass_0 rfl rfl ?_
  refine sj_iconstv C (1) 2 rfl dX6_pass_1 rfl ?_
  refine sj_icmp_lt C 11 5 rfl rfl dX6_pass_2 (fun c_2 => ?_) (fun c_2 => ?_)
  · exact sj_throw C hR hl rfl sj_Ex_45 (wr_6 _ (List.mem_of_getElem? (i := 21) (by decide +kernel))) (wr_6 _ (List.mem_of_getElem? (i := 22) (by decide +kernel))) (text := "years are 1 to 99") (by decide) dX6_pass_11 dX6_pass_14 dX6_pass_15 dX6_pass_17 dX6_pass_20 rfl (⟨sq_fr_id, hW⟩)
  · refine sj_iload_n C 6 rfl dX6_pass_5 rfl rfl ?_
    refine sj_bipush C (99) 8 rfl dX6_pass_6 (by decide) ?_
    refine sj_icmp_le C 21 11 rfl rfl dX6_pass_8 (fun c_8 => ?_) (fun c_8 => ?_)
    · exact sq_tf hb (sj_wi_in c_2 (Int32.not_lt.mpr c_8))
    · exact sj_throw C hR hl rfl sj_Ex_45 (wr_6 _ (List.mem_of_getElem? (i := 21) (by decide +kernel))) (wr_6 _ (List.mem_of_getElem? (i := 22) (by decide +kernel))) (text := "years are 1 to 99") (by decide) dX6_pass_11 dX6_pass_14 dX6_pass_15 dX6_pass_17 dX6_pass_20 rfl (⟨sq_fr_id, hW⟩)
set_option maxRecDepth 100000 in
set_option maxHeartbeats 150000 in
theorem ct_X6_append_1 (l : Launch) {S : sj_St} {g : Nat → Nat} {m : Nat → Int32} {hs : Bool} {ms : Nat → Int32} {p q : Nat} {Q : Nat → Nat → Int32} {n : Nat} {B : Nat → Int32} (hW : sq_W S g m hs ms p q Q n B) (hI : sj_inv m) (hl : l.stackTraces = false) (c : Int32) (hb : sj_wi c 33 126 = false) : sj_CtX l mX6_append [.ref (g 141), .int c] S "java/lang/IllegalArgumentException" (fun T => sq_fr (sq_Cl g) S T ∧ sq_W T g m hs ms p q Q n B) := by
  refine sj_startX ([some (.ref (g 141)), some (.int c)]) (by decide +kernel) rfl rfl (fun X hX C hR => ?_)
  subst hX
  obtain ⟨⟨⟨kd_x, rf_x_0, rf_x_1, rf_x_2, rf_x_3⟩, hTl, hHl, hinj⟩, ⟨hT, h4, hT1⟩, hK3, ⟨hH1, hp6, hH2, hq6, hQ⟩, hX, hB⟩ := id hW
  have kd_t := hT.1.1
  have rf_t_4 := hT.1.2.2.2.2.1.1
  have rf_t_5 := hT.1.2.2.2.2.2.1.1
  have hol := hT.1.2.2.2.2.1.2
  have kd_o := hol.1
  have hset := hT.1.2.2.2.2.2.1.2
  have kd_se := hset.1
  have kd_tx := hX.1
  have kd_hi := hHl.1
  have h3 : sj_fi S (g 0) 3 = m 9 := hT.2.1.1
  have h6 : sj_fi S (g 0) 6 = m 12 := hT.2.1.2.1
  have h7 : sj_fi S (g 0) 7 = m 13 := hT.2.1.2.2
  have hRo := hT.2.2.2.2.1
  obtain ⟨h9, hn8⟩ := id hI.1
  have hN28 := hI.2.1.2
  have hv := sj_inv_oav hI
  refine sj_iload_n C 1 rfl dX6_append_0 rfl rfl ?_
  refine sj_bipush C (33) 3 rfl dX6_append_1 (by decide) ?_
  refine sj_icmp_lt C 12 6 rfl rfl dX6_append_3 (fun c_3 => ?_) (fun c_3 => ?_)
  · exact sj_throw C hR hl rfl sj_Ex_45 (wr_6 _ (List.mem_of_getElem? (i := 21) (by decide +kernel))) (wr_6 _ (List.mem_of_getElem? (i := 22) (by decide +kernel))) (text := "character codes are 33 to 126") (by decide) dX6_append_12 dX6_append_15 dX6_append_16 dX6_append_18 dX6_append_21 rfl (⟨sq_fr_id, hW⟩)
  · refine sj_iload_n C 7 rfl dX6_append_6 rfl rfl ?_
    refine sj_bipush C (126) 9 rfl dX6_append_7 (by decide) ?_
    refine sj_icmp_le C 22 12 rfl rfl dX6_append_9 (fun c_9 => ?_) (fun c_9 => ?_)
    · exact sq_tf hb (sj_wi_in c_3 (Int32.not_lt.mpr c_9))
    · exact sj_throw C hR hl rfl sj_Ex_45 (wr_6 _ (List.mem_of_getElem? (i := 21) (by decide +kernel))) (wr_6 _ (List.mem_of_getElem? (i := 22) (by decide +kernel))) (text := "character codes are 33 to 126") (by decide) dX6_append_12 dX6_append_15 dX6_append_16 dX6_append_18 dX6_append_21 rfl (⟨sq_fr_id, hW⟩)
set_option maxRecDepth 100000 in
set_option maxHeartbeats 150000 in
theorem ct_X6_append_2 (l : Launch) {S : sj_St} {g : Nat → Nat} {m : Nat → Int32} {hs : Bool} {ms : Nat → Int32} {p q : Nat} {Q : Nat → Nat → Int32} {n : Nat} {B : Nat → Int32} (hW : sq_W S g m hs ms p q Q n B) (hI : sj_inv m) (hl : l.stackTraces = false) (c : Int32) (hc : sj_wi c 33 126 = true) (h60 : n = 60) : sj_CtX l mX6_append [.ref (g 141), .int c] S "java/lang/IllegalStateException" (fun T => sq_fr (sq_Cl g) S T ∧ sq_W T g m hs ms p q Q n B) := by
  refine sj_startX ([some (.ref (g 141)), some (.int c)]) (by decide +kernel) rfl rfl (fun X hX C hR => ?_)
  subst hX
  obtain ⟨⟨⟨kd_x, rf_x_0, rf_x_1, rf_x_2, rf_x_3⟩, hTl, hHl, hinj⟩, ⟨hT, h4, hT1⟩, hK3, ⟨hH1, hp6, hH2, hq6, hQ⟩, hX, hB⟩ := id hW
  have kd_t := hT.1.1
  have rf_t_4 := hT.1.2.2.2.2.1.1
  have rf_t_5 := hT.1.2.2.2.2.2.1.1
  have hol := hT.1.2.2.2.2.1.2
  have kd_o := hol.1
  have hset := hT.1.2.2.2.2.2.1.2
  have kd_se := hset.1
  have kd_tx := hX.1
  have kd_hi := hHl.1
  have h3 : sj_fi S (g 0) 3 = m 9 := hT.2.1.1
  have h6 : sj_fi S (g 0) 6 = m 12 := hT.2.1.2.1
  have h7 : sj_fi S (g 0) 7 = m 13 := hT.2.1.2.2
  have hRo := hT.2.2.2.2.1
  obtain ⟨h9, hn8⟩ := id hI.1
  have hN28 := hI.2.1.2
  have hv := sj_inv_oav hI
  obtain ⟨hc1, hc2⟩ := sj_wi_iff.mp hc
  subst h60
  refine sj_iload_n C 1 rfl dX6_append_0 rfl rfl ?_
  refine sj_bipush C (33) 3 rfl dX6_append_1 (by decide) ?_
  refine sj_icmp_lt C 12 6 rfl rfl dX6_append_3 (fun c_3 => ?_) (fun c_3 => ?_)
  · exact absurd hc1 (Int32.not_le.mpr c_3)
  · refine sj_iload_n C 7 rfl dX6_append_6 rfl rfl ?_
    refine sj_bipush C (126) 9 rfl dX6_append_7 (by decide) ?_
    refine sj_icmp_le C 22 12 rfl rfl dX6_append_9 (fun c_9 => ?_) (fun c_9 => ?_)
    · refine sj_aload_n C 23 rfl dX6_append_22 rfl rfl ?_
      refine sj_getr C 26 rfl fd_X6_10 dX6_append_23 kd_x rf_x_0 ?_
      refine sj_getI C 29 rfl fd_X6_155 dX6_append_26 kd_tx ?_
      rw [hX.2.2.2.2.2.2.1.1]
      refine sj_bipush C (60) 31 rfl dX6_append_29 (by decide) ?_
      refine sj_icmp_lt C 44 34 rfl rfl dX6_append_31 (fun c_31 => ?_) (fun c_31 => ?_)
      · exact absurd c_31 (by decide)
      · exact sj_throw C hR hl rfl sj_Ex_56 (wr_6 _ (List.mem_of_getElem? (i := 23) (by decide +kernel))) (wr_7 _ (List.mem_of_getElem? (i := 0) (by decide +kernel))) (text := "the buffer is full") (by decide) dX6_append_34 dX6_append_37 dX6_append_38 dX6_append_40 dX6_append_43 rfl (⟨sq_fr_id, hW⟩)
    · exact absurd hc2 c_9
set_option maxRecDepth 100000 in
set_option maxHeartbeats 150000 in
theorem ct_X6_oath_1 (l : Launch) {S : sj_St} {g : Nat → Nat} {m : Nat → Int32} {hs : Bool} {ms : Nat → Int32} {p q : Nat} {Q : Nat → Nat → Int32} {n : Nat} {B : Nat → Int32} (hW : sq_W S g m hs ms p q Q n B) (hI : sj_inv m) (hl : l.stackTraces = false) (k w : Int32) (hb : k < 0 ∨ sj_wi w 0 3 = false) : sj_CtX l mX6_oath [.ref (g 141), .int k, .int w] S "java/lang/IllegalArgumentException" (fun T => sq_fr (sq_Cl g) S T ∧ sq_W T g m hs ms p q Q n B) := by
  refine sj_startX ([some (.ref (g 141)), some (.int k), some (.int w)]) (by decide +kernel) rfl rfl (fun X hX C hR => ?_)
  subst hX
  obtain ⟨⟨⟨kd_x, rf_x_0, rf_x_1, rf_x_2, rf_x_3⟩, hTl, hHl, hinj⟩, ⟨hT, h4, hT1⟩, hK3, ⟨hH1, hp6, hH2, hq6, hQ⟩, hX, hB⟩ := id hW
  have kd_t := hT.1.1
  have rf_t_4 := hT.1.2.2.2.2.1.1
  have rf_t_5 := hT.1.2.2.2.2.2.1.1
  have hol := hT.1.2.2.2.2.1.2
  have kd_o := hol.1
  have hset := hT.1.2.2.2.2.2.1.2
  have kd_se := hset.1
  have kd_tx := hX.1
  have kd_hi := hHl.1
  have h3 : sj_fi S (g 0) 3 = m 9 := hT.2.1.1
  have h6 : sj_fi S (g 0) 6 = m 12 := hT.2.1.2.1
  have h7 : sj_fi S (g 0) 7 = m 13 := hT.2.1.2.2
  have hRo := hT.2.2.2.2.1
  obtain ⟨h9, hn8⟩ := id hI.1
  have hN28 := hI.2.1.2
  have hv := sj_inv_oav hI
  refine sj_iload_n C 1 rfl dX6_oath_0 rfl rfl ?_
  refine sj_if_lt C 13 4 rfl rfl dX6_oath_1 (fun c_1 => ?_) (fun c_1 => ?_)
  · exact sj_throw C hR hl rfl sj_Ex_45 (wr_6 _ (List.mem_of_getElem? (i := 21) (by decide +kernel))) (wr_6 _ (List.mem_of_getElem? (i := 22) (by decide +kernel))) (text := "oaths are 0 or more, what is 0 to 3") (by decide) dX6_oath_13 dX6_oath_16 dX6_oath_17 dX6_oath_19 dX6_oath_22 rfl (⟨sq_fr_id, hW⟩)
  · refine sj_iload_n C 5 rfl dX6_oath_4 rfl rfl ?_
    refine sj_if_lt C 13 8 rfl rfl dX6_oath_5 (fun c_5 => ?_) (fun c_5 => ?_)
    · exact sj_throw C hR hl rfl sj_Ex_45 (wr_6 _ (List.mem_of_getElem? (i := 21) (by decide +kernel))) (wr_6 _ (List.mem_of_getElem? (i := 22) (by decide +kernel))) (text := "oaths are 0 or more, what is 0 to 3") (by decide) dX6_oath_13 dX6_oath_16 dX6_oath_17 dX6_oath_19 dX6_oath_22 rfl (⟨sq_fr_id, hW⟩)
    · refine sj_iload_n C 9 rfl dX6_oath_8 rfl rfl ?_
      refine sj_iconstv C (4) 10 rfl dX6_oath_9 rfl ?_
      refine sj_icmp_lt C 23 13 rfl rfl dX6_oath_10 (fun c_10 => ?_) (fun c_10 => ?_)
      · exact hb.elim (fun h => absurd h c_1) (fun h => sq_tf h (sq_wil (k := 3) (by omega) c_5 c_10))
      · exact sj_throw C hR hl rfl sj_Ex_45 (wr_6 _ (List.mem_of_getElem? (i := 21) (by decide +kernel))) (wr_6 _ (List.mem_of_getElem? (i := 22) (by decide +kernel))) (text := "oaths are 0 or more, what is 0 to 3") (by decide) dX6_oath_13 dX6_oath_16 dX6_oath_17 dX6_oath_19 dX6_oath_22 rfl (⟨sq_fr_id, hW⟩)
set_option maxRecDepth 100000 in
set_option maxHeartbeats 150000 in
theorem ct_X6_count_1 (l : Launch) {S : sj_St} {g : Nat → Nat} {m : Nat → Int32} {hs : Bool} {ms : Nat → Int32} {p q : Nat} {Q : Nat → Nat → Int32} {n : Nat} {B : Nat → Int32} (hW : sq_W S g m hs ms p q Q n B) (hI : sj_inv m) (hl : l.stackTraces = false) (w : Int32) (hb : sj_wi w 0 17 = false) : sj_CtX l mX6_count [.ref (g 141), .int w] S "java/lang/IllegalArgumentException" (fun T => sq_fr (sq_Cl g) S T ∧ sq_W T g m hs ms p q Q n B) := by
  refine sj_startX ([some (.ref (g 141)), some (.int w)]) (by decide +kernel) rfl rfl (fun X hX C hR => ?_)
  subst hX
  obtain ⟨⟨⟨kd_x, rf_x_0, rf_x_1, rf_x_2, rf_x_3⟩, hTl, hHl, hinj⟩, ⟨hT, h4, hT1⟩, hK3, ⟨hH1, hp6, hH2, hq6, hQ⟩, hX, hB⟩ := id hW
  have kd_t := hT.1.1
  have rf_t_4 := hT.1.2.2.2.2.1.1
  have rf_t_5 := hT.1.2.2.2.2.2.1.1
  have hol := hT.1.2.2.2.2.1.2
  have kd_o := hol.1
  have hset := hT.1.2.2.2.2.2.1.2
  have kd_se := hset.1
  have kd_tx := hX.1
  have kd_hi := hHl.1
  have h3 : sj_fi S (g 0) 3 = m 9 := hT.2.1.1
  have h6 : sj_fi S (g 0) 6 = m 12 := hT.2.1.2.1
  have h7 : sj_fi S (g 0) 7 = m 13 := hT.2.1.2.2
  have hRo := hT.2.2.2.2.1
  obtain ⟨h9, hn8⟩ := id hI.1
  have hN28 := hI.2.1.2
  have hv := sj_inv_oav hI
  refine sj_iload_n C 1 rfl dX6_count_0 rfl rfl ?_
  refine sj_if_lt C 10 4 rfl rfl dX6_count_1 (fun c_1 => ?_) (fun c_1 => ?_)
  · exact sj_throw C hR hl rfl sj_Ex_45 (wr_6 _ (List.mem_of_getElem? (i := 21) (by decide +kernel))) (wr_6 _ (List.mem_of_getElem? (i := 22) (by decide +kernel))) (text := "what is 0 to 17") (by decide) dX6_count_10 dX6_count_13 dX6_count_14 dX6_count_16 dX6_count_19 rfl (⟨sq_fr_id, hW⟩)
  · refine sj_iload_n C 5 rfl dX6_count_4 rfl rfl ?_
    refine sj_bipush C (18) 7 rfl dX6_count_5 (by decide) ?_
    refine sj_icmp_lt C 20 10 rfl rfl dX6_count_7 (fun c_7 => ?_) (fun c_7 => ?_)
    · exact sq_tf hb (sq_wil (k := 17) (by omega) c_1 c_7)
    · exact sj_throw C hR hl rfl sj_Ex_45 (wr_6 _ (List.mem_of_getElem? (i := 21) (by decide +kernel))) (wr_6 _ (List.mem_of_getElem? (i := 22) (by decide +kernel))) (text := "what is 0 to 17") (by decide) dX6_count_10 dX6_count_13 dX6_count_14 dX6_count_16 dX6_count_19 rfl (⟨sq_fr_id, hW⟩)
set_option maxRecDepth 100000 in
set_option maxHeartbeats 150000 in
theorem ct_X6_undo_1 (l : Launch) {S : sj_St} {g : Nat → Nat} {m : Nat → Int32} {hs : Bool} {ms : Nat → Int32} {p q : Nat} {Q : Nat → Nat → Int32} {n : Nat} {B : Nat → Int32} (hW : sq_W S g m hs ms p q Q n B) (hI : sj_inv m) (hl : l.stackTraces = false) (h0 : q = 0) : sj_CtX l mX6_undo [.ref (g 141)] S "java/lang/IllegalStateException" (fun T => sq_fr (sq_Cl g) S T ∧ sq_W T g m hs ms p q Q n B) := by
  refine sj_startX ([some (.ref (g 141))]) (by decide +kernel) rfl rfl (fun X hX C hR => ?_)
  subst hX
  obtain ⟨⟨⟨kd_x, rf_x_0, rf_x_1, rf_x_2, rf_x_3⟩, hTl, hHl, hinj⟩, ⟨hT, h4, hT1⟩, hK3, ⟨hH1, hp6, hH2, hq6, hQ⟩, hX, hB⟩ := id hW
  have kd_t := hT.1.1
  have rf_t_4 := hT.1.2.2.2.2.1.1
  have rf_t_5 := hT.1.2.2.2.2.2.1.1
  have hol := hT.1.2.2.2.2.1.2
  have kd_o := hol.1
  have hset := hT.1.2.2.2.2.2.1.2
  have kd_se := hset.1
  have kd_tx := hX.1
  have kd_hi := hHl.1
  have h3 : sj_fi S (g 0) 3 = m 9 := hT.2.1.1
  have h6 : sj_fi S (g 0) 6 = m 12 := hT.2.1.2.1
  have h7 : sj_fi S (g 0) 7 = m 13 := hT.2.1.2.2
  have hRo := hT.2.2.2.2.1
  obtain ⟨h9, hn8⟩ := id hI.1
  have hN28 := hI.2.1.2
  have hv := sj_inv_oav hI
  subst h0
  refine sj_aload_n C 1 rfl dX6_undo_0 rfl rfl ?_
  refine sj_getr C 4 rfl fd_X6_26 dX6_undo_1 kd_x rf_x_2 ?_
  refine sj_getI C 7 rfl fd_X6_187 dX6_undo_4 kd_hi ?_
  rw [hH2]
  refine sj_if_gt C 20 10 rfl rfl dX6_undo_7 (fun c_7 => ?_) (fun c_7 => ?_)
  · exact absurd c_7 (by decide)
  · exact sj_throw C hR hl rfl sj_Ex_56 (wr_6 _ (List.mem_of_getElem? (i := 23) (by decide +kernel))) (wr_7 _ (List.mem_of_getElem? (i := 0) (by decide +kernel))) (text := "no state is saved") (by decide) dX6_undo_10 dX6_undo_13 dX6_undo_14 dX6_undo_16 dX6_undo_19 rfl (⟨sq_fr_id, hW⟩)
set_option maxRecDepth 100000 in
set_option maxHeartbeats 150000 in
theorem ct_X6_set_1 (l : Launch) {S : sj_St} {g : Nat → Nat} {m : Nat → Int32} {hs : Bool} {ms : Nat → Int32} {p q : Nat} {Q : Nat → Nat → Int32} {n : Nat} {B : Nat → Int32} (hW : sq_W S g m hs ms p q Q n B) (hI : sj_inv m) (hl : l.stackTraces = false) (s v : Int32) (hb : sj_wi s 0 8 = false) : sj_CtX l mX6_set [.ref (g 141), .int s, .int v] S "java/lang/IndexOutOfBoundsException" (fun T => sq_fr (sq_Cl g) S T ∧ sq_W T g m hs ms p q Q n B) := by
  refine sj_startX ([some (.ref (g 141)), some (.int s), some (.int v), none]) (by decide +kernel) rfl rfl (fun X hX C hR => ?_)
  subst hX
  obtain ⟨⟨⟨kd_x, rf_x_0, rf_x_1, rf_x_2, rf_x_3⟩, hTl, hHl, hinj⟩, ⟨hT, h4, hT1⟩, hK3, ⟨hH1, hp6, hH2, hq6, hQ⟩, hX, hB⟩ := id hW
  have kd_t := hT.1.1
  have rf_t_4 := hT.1.2.2.2.2.1.1
  have rf_t_5 := hT.1.2.2.2.2.2.1.1
  have hol := hT.1.2.2.2.2.1.2
  have kd_o := hol.1
  have hset := hT.1.2.2.2.2.2.1.2
  have kd_se := hset.1
  have kd_tx := hX.1
  have kd_hi := hHl.1
  have h3 : sj_fi S (g 0) 3 = m 9 := hT.2.1.1
  have h6 : sj_fi S (g 0) 6 = m 12 := hT.2.1.2.1
  have h7 : sj_fi S (g 0) 7 = m 13 := hT.2.1.2.2
  have hRo := hT.2.2.2.2.1
  obtain ⟨h9, hn8⟩ := id hI.1
  have hN28 := hI.2.1.2
  have hv := sj_inv_oav hI
  refine sj_iload_n C 1 rfl dX6_set_0 rfl rfl ?_
  refine sj_if_lt C 18 4 rfl rfl dX6_set_1 (fun c_1 => ?_) (fun c_1 => ?_)
  · exact sj_throw C hR hl rfl sj_Ex_91 (wr_12 _ (List.mem_of_getElem? (i := 14) (by decide +kernel))) (wr_12 _ (List.mem_of_getElem? (i := 15) (by decide +kernel))) (text := "no such setting") (by decide) dX6_set_18 dX6_set_21 dX6_set_22 dX6_set_24 dX6_set_27 rfl (⟨sq_fr_id, hW⟩)
  · refine sj_iload_n C 5 rfl dX6_set_4 rfl rfl ?_
    refine sj_bipush C (9) 7 rfl dX6_set_5 (by decide) ?_
    refine sj_icmp_ge C 18 10 rfl rfl dX6_set_7 (fun c_7 => ?_) (fun c_7 => ?_)
    · exact sj_throw C hR hl rfl sj_Ex_91 (wr_12 _ (List.mem_of_getElem? (i := 14) (by decide +kernel))) (wr_12 _ (List.mem_of_getElem? (i := 15) (by decide +kernel))) (text := "no such setting") (by decide) dX6_set_18 dX6_set_21 dX6_set_22 dX6_set_24 dX6_set_27 rfl (⟨sq_fr_id, hW⟩)
    · exact sq_tf hb (sq_wil (k := 8) (by omega) c_1 (Int32.not_le.mp c_7))
set_option maxRecDepth 100000 in
set_option maxHeartbeats 150000 in
theorem ct_X6_set_2 (l : Launch) {S : sj_St} {g : Nat → Nat} {m : Nat → Int32} {hs : Bool} {ms : Nat → Int32} {p q : Nat} {Q : Nat → Nat → Int32} {n : Nat} {B : Nat → Int32} (hW : sq_W S g m hs ms p q Q n B) (hI : sj_inv m) (hl : l.stackTraces = false) (w v : Int32) (hsw : sj_wi w 0 8 = true) (hb : sj_wi v 0 (sj_mst w) = false) : sj_CtX l mX6_set [.ref (g 141), .int w, .int v] S "java/lang/IllegalArgumentException" (fun T => sq_fr (sq_Cl g) S T ∧ sq_W T g m hs ms p q Q n B) := by
  refine sj_startX ([some (.ref (g 141)), some (.int w), some (.int v), none]) (by decide +kernel) rfl rfl (fun X hX C hR => ?_)
  subst hX
  obtain ⟨⟨⟨kd_x, rf_x_0, rf_x_1, rf_x_2, rf_x_3⟩, hTl, hHl, hinj⟩, ⟨hT, h4, hT1⟩, hK3, ⟨hH1, hp6, hH2, hq6, hQ⟩, hX, hB⟩ := id hW
  have kd_t := hT.1.1
  have rf_t_4 := hT.1.2.2.2.2.1.1
  have rf_t_5 := hT.1.2.2.2.2.2.1.1
  have hol := hT.1.2.2.2.2.1.2
  have kd_o := hol.1
  have hset := hT.1.2.2.2.2.2.1.2
  have kd_se := hset.1
  have kd_tx := hX.1
  have kd_hi := hHl.1
  have h3 : sj_fi S (g 0) 3 = m 9 := hT.2.1.1
  have h6 : sj_fi S (g 0) 6 = m 12 := hT.2.1.2.1
  have h7 : sj_fi S (g 0) 7 = m 13 := hT.2.1.2.2
  have hRo := hT.2.2.2.2.1
  obtain ⟨h9, hn8⟩ := id hI.1
  have hN28 := hI.2.1.2
  have hv := sj_inv_oav hI
  obtain ⟨s, hs, rfl⟩ := sj_wi_nI (n := 8) (by omega) hsw
  have es : sj_tn (nI s) = s := sj_tn_nI (by omega)
  refine sj_iload_n C 1 rfl dX6_set_0 rfl rfl ?_
  refine sj_if_lt C 18 4 rfl rfl dX6_set_1 (fun c_1 => ?_) (fun c_1 => ?_)
  · exact absurd c_1 (nI_pos (by omega))
  · refine sj_iload_n C 5 rfl dX6_set_4 rfl rfl ?_
    refine sj_bipush C (9) 7 rfl dX6_set_5 (by decide) ?_
    refine sj_icmp_ge C 18 10 rfl rfl dX6_set_7 (fun c_7 => ?_) (fun c_7 => ?_)
    · exact absurd c_7 (nI_ge (b := 9) (by omega) (by omega))
    · refine sj_iload_n C 11 rfl dX6_set_10 rfl rfl ?_
      refine sj_getsR C true 14 rfl dX6_set_11 (Or.inl (wr_21 _ (List.mem_of_getElem? (i := 5) (by decide +kernel)))) (fun tab1 T_tab1 => ?_)
      refine sj_tlen C 15 rfl dX6_set_14 T_tab1 ?_
      refine sj_icmp_lt C 28 18 rfl rfl dX6_set_15 (fun c_15 => ?_) (fun c_15 => ?_)
      · refine sj_iload_n C 29 rfl dX6_set_28 rfl rfl ?_
        refine sj_if_lt C 41 32 rfl rfl dX6_set_29 (fun c_29 => ?_) (fun c_29 => ?_)
        · exact sj_throw C hR hl rfl sj_Ex_45 (wr_6 _ (List.mem_of_getElem? (i := 21) (by decide +kernel))) (wr_6 _ (List.mem_of_getElem? (i := 22) (by decide +kernel))) (text := "no such value of this setting") (by decide) dX6_set_41 dX6_set_44 dX6_set_45 dX6_set_47 dX6_set_50 rfl (⟨sq_fr_id, hW⟩)
        · refine sj_iload_n C 33 rfl dX6_set_32 rfl rfl ?_
          refine sj_getsR C true 36 rfl dX6_set_33 (Or.inl (wr_21 _ (List.mem_of_getElem? (i := 5) (by decide +kernel)))) (fun tab2 T_tab2 => ?_)
          refine sj_iload_n C 37 rfl dX6_set_36 rfl rfl ?_
          refine sj_tld C 38 rfl dX6_set_37 T_tab2 (vp_in_nI (by omega) (by omega)) ?_
          rw [nI_clamp (by omega)]
          refine sj_icmp_le C 51 41 rfl rfl dX6_set_38 (fun c_38 => ?_) (fun c_38 => ?_)
          · exact sq_tf hb (sj_wi_in c_29 (Int32.not_lt.mpr (by rw [← sj_t2_m (by omega)]; exact c_38)))
          · exact sj_throw C hR hl rfl sj_Ex_45 (wr_6 _ (List.mem_of_getElem? (i := 21) (by decide +kernel))) (wr_6 _ (List.mem_of_getElem? (i := 22) (by decide +kernel))) (text := "no such value of this setting") (by decide) dX6_set_41 dX6_set_44 dX6_set_45 dX6_set_47 dX6_set_50 rfl (⟨sq_fr_id, hW⟩)
      · exact absurd (show nI s < nI 9 from nI_lt (by omega) (by omega)) c_15
set_option maxRecDepth 100000 in
set_option maxHeartbeats 150000 in
theorem ct_X6_swear_2 (l : Launch) {S : sj_St} {g : Nat → Nat} {m : Nat → Int32} {hs : Bool} {ms : Nat → Int32} {p q : Nat} {Q : Nat → Nat → Int32} {n : Nat} {B : Nat → Int32} (hW : sq_W S g m hs ms p q Q n B) (hI : sj_inv m) (hl : l.stackTraces = false) (hu : sj_uc m) (v e : Int32) (hsv : sj_isn m v = true) (hsw : sj_isn m e = true) (like : Bool) (hw0 : ¬ sj_why m (sj_tn v) (sj_tn e) like = 0) : sj_CtX l mX6_swear [.ref (g 141), .int v, .int e, .int (sj_bi like)] S "java/lang/IllegalStateException" (fun T => sq_fr (sq_Cl g) S T ∧ sq_W T g m hs ms p q Q n B) := by
  refine sj_startX ([some (.ref (g 141)), some (.int v), some (.int e), some (.int (sj_bi like))]) (by decide +kernel) rfl rfl (fun X hX C hR => ?_)
  subst hX
  obtain ⟨⟨⟨kd_x, rf_x_0, rf_x_1, rf_x_2, rf_x_3⟩, hTl, hHl, hinj⟩, ⟨hT, h4, hT1⟩, hK3, ⟨hH1, hp6, hH2, hq6, hQ⟩, hX, hB⟩ := id hW
  have kd_t := hT.1.1
  have rf_t_4 := hT.1.2.2.2.2.1.1
  have rf_t_5 := hT.1.2.2.2.2.2.1.1
  have hol := hT.1.2.2.2.2.1.2
  have kd_o := hol.1
  have hset := hT.1.2.2.2.2.2.1.2
  have kd_se := hset.1
  have kd_tx := hX.1
  have kd_hi := hHl.1
  have h3 : sj_fi S (g 0) 3 = m 9 := hT.2.1.1
  have h6 : sj_fi S (g 0) 6 = m 12 := hT.2.1.2.1
  have h7 : sj_fi S (g 0) 7 = m 13 := hT.2.1.2.2
  have hRo := hT.2.2.2.2.1
  obtain ⟨h9, hn8⟩ := id hI.1
  have hN28 := hI.2.1.2
  have hv := sj_inv_oav hI
  have hi0 := hsv
  have he0 := hsw
  obtain ⟨i, hi, rfl⟩ := sj_isn_n h9 hn8 hsv
  have ei : sj_tn (nI i) = i := sj_tn_nI (by omega)
  obtain ⟨o, ho, rfl⟩ := sj_isn_n h9 hn8 hsw
  have eo : sj_tn (nI o) = o := sj_tn_nI (by omega)
  rw [ei, eo] at hw0
  refine sj_aload_n C 1 rfl dX6_swear_0 rfl rfl ?_
  refine sj_iload_n C 2 rfl dX6_swear_1 rfl rfl ?_
  refine sj_iload_n C 3 rfl dX6_swear_2 rfl rfl ?_
  refine sj_callVd C 6 rfl dX6_swear_3 cv_X6_121 rfl (ct_X6_areThere _ hW hI _ _) rfl rfl rfl ⟨_, _, kd_x, rfl, rfl, by decide⟩ ⟨rfl, rfl⟩ ?_
  refine sj_if_ne C 19 9 rfl rfl dX6_swear_6 (fun c_6 => ?_) (fun c_6 => ?_)
  · refine sj_aload_n C 20 rfl dX6_swear_19 rfl rfl ?_
    refine sj_getr C 23 rfl fd_X6_19 dX6_swear_20 kd_x rf_x_1 ?_
    refine sj_iload_n C 24 rfl dX6_swear_23 rfl rfl ?_
    refine sj_iload_n C 25 rfl dX6_swear_24 rfl rfl ?_
    refine sj_iload_n C 26 rfl dX6_swear_25 rfl rfl ?_
    refine sj_callVd C 29 rfl dX6_swear_26 cv_X6_125 rfl (ct_X4_reasonAgainst _ hT hI hu hi ho like) rfl rfl rfl ⟨_, _, kd_t, rfl, rfl, by decide⟩ ⟨rfl, rfl⟩ ?_
    refine sj_if_eq C 42 32 rfl rfl dX6_swear_29 (fun c_29 => ?_) (fun c_29 => ?_)
    · exact absurd c_29 hw0
    · exact sj_throw C hR hl rfl sj_Ex_56 (wr_6 _ (List.mem_of_getElem? (i := 23) (by decide +kernel))) (wr_7 _ (List.mem_of_getElem? (i := 0) (by decide +kernel))) (text := "this cannot be sworn") (by decide) dX6_swear_32 dX6_swear_35 dX6_swear_36 dX6_swear_38 dX6_swear_41 rfl (⟨sq_fr_id, hW⟩)
  · exact absurd c_6 (by rw [hi0, he0]; decide)
set_option maxRecDepth 100000 in
set_option maxHeartbeats 250000 in
theorem ct_X6_lay_1 (l : Launch) {S : sj_St} {g : Nat → Nat} {m : Nat → Int32} {hs : Bool} {ms : Nat → Int32} {p q : Nat} {Q : Nat → Nat → Int32} {n : Nat} {B : Nat → Int32} (hW : sq_W S g m hs ms p q Q n B) (hI : sj_inv m) (hl : l.stackTraces = false) (age : Int32) {f0 : Nat → Int32} (hb : ¬ (sj_sht B n f0).1 = -1 ∨ sj_wi age 0 99 = false) : sj_CtX l mX6_lay [.ref (g 141), .int age] S "java/lang/IllegalArgumentException" (fun T => sq_fr (sq_Cl g) S T ∧ sq_W T g m hs ms p q Q n B) := by
  refine sj_startX ([some (.ref (g 141)), some (.int age), none, none]) (by decide +kernel) rfl rfl (fun X hX C hR => ?_)
  subst hX
  obtain ⟨⟨⟨kd_x, rf_x_0, rf_x_1, rf_x_2, rf_x_3⟩, hTl, hHl, hinj⟩, ⟨hT, h4, hT1⟩, hK3, ⟨hH1, hp6, hH2, hq6, hQ⟩, hX, hB⟩ := id hW
  have kd_t := hT.1.1
  have rf_t_4 := hT.1.2.2.2.2.1.1
  have rf_t_5 := hT.1.2.2.2.2.2.1.1
  have hol := hT.1.2.2.2.2.1.2
  have kd_o := hol.1
  have hset := hT.1.2.2.2.2.2.1.2
  have kd_se := hset.1
  have kd_tx := hX.1
  have kd_hi := hHl.1
  have h3 : sj_fi S (g 0) 3 = m 9 := hT.2.1.1
  have h6 : sj_fi S (g 0) 6 = m 12 := hT.2.1.2.1
  have h7 : sj_fi S (g 0) 7 = m 13 := hT.2.1.2.2
  have hRo := hT.2.2.2.2.1
  obtain ⟨h9, hn8⟩ := id hI.1
  have hN28 := hI.2.1.2
  have hv := sj_inv_oav hI
  have hn60 := hX.2.2.2.2.2.2.1.2.1
  obtain ⟨-, -, hcm, hrs⟩ := sq_rs_eq hB hn60 f0 (sj_ia S (sq_E g 4))
  refine sj_iload_n C 1 rfl dX6_lay_0 rfl rfl ?_
  refine sj_if_lt C 20 4 rfl rfl dX6_lay_1 (fun c_1 => ?_) (fun c_1 => ?_)
  · exact sj_throw C hR hl rfl sj_Ex_45 (wr_6 _ (List.mem_of_getElem? (i := 21) (by decide +kernel))) (wr_6 _ (List.mem_of_getElem? (i := 22) (by decide +kernel))) (text := "no complete sheet in the buffer, or no such age") (by decide) dX6_lay_20 dX6_lay_23 dX6_lay_24 dX6_lay_26 dX6_lay_29 rfl (by first | exact ⟨hf1, hW1⟩ | exact ⟨sq_fr_id, hW⟩)
  · refine sj_iload_n C 5 rfl dX6_lay_4 rfl rfl ?_
    refine sj_bipush C (99) 7 rfl dX6_lay_5 (by decide) ?_
    refine sj_icmp_gt C 20 10 rfl rfl dX6_lay_7 (fun c_7 => ?_) (fun c_7 => ?_)
    · exact sj_throw C hR hl rfl sj_Ex_45 (wr_6 _ (List.mem_of_getElem? (i := 21) (by decide +kernel))) (wr_6 _ (List.mem_of_getElem? (i := 22) (by decide +kernel))) (text := "no complete sheet in the buffer, or no such age") (by decide) dX6_lay_20 dX6_lay_23 dX6_lay_24 dX6_lay_26 dX6_lay_29 rfl (by first | exact ⟨hf1, hW1⟩ | exact ⟨sq_fr_id, hW⟩)
    · refine sj_aload_n C 11 rfl dX6_lay_10 rfl rfl ?_
      refine sj_getr C 14 rfl fd_X6_10 dX6_lay_11 kd_x rf_x_0 ?_
      refine sj_callVd C 17 rfl dX6_lay_14 cv_X6_37 rfl (ct_X5_readSheet _ hX) rfl rfl rfl ⟨_, _, kd_tx, rfl, rfl, by decide⟩ ⟨rfl, rfl⟩ ?_
      obtain ⟨hW1, hf1⟩ : sq_W (sq_xr S (g 128) (sq_E g) (sq_rs B n (sj_ia S (sq_E g 4))) 0 (sj_ia S (sq_E g 6)) (sj_ia S (sq_E g 8)) (sj_ia S (sq_E g 10))) g m hs ms p q Q n B ∧ sq_fr (sq_Cl g) S (sq_xr S (g 128) (sq_E g) (sq_rs B n (sj_ia S (sq_E g 4))) 0 (sj_ia S (sq_E g 6)) (sj_ia S (sq_E g 8)) (sj_ia S (sq_E g 10))) := sq_W_text hW (sq_fr_xs (s := (sq_rs B n (sj_ia S (sq_E g 4))).1) (k := (sq_rs B n (sj_ia S (sq_E g 4))).2.1) (q := 0) (fn := (sq_rs B n (sj_ia S (sq_E g 4))).2.2) (fk := sj_ia S (sq_E g 6)) (ff := sj_ia S (sq_E g 8)) (fs := sj_ia S (sq_E g 10)) rfl) (sq_xl_xs hX) hB
      rw [hcm]
      generalize sq_xr S (g 128) (sq_E g) (sq_rs B n (sj_ia S (sq_E g 4))) 0 (sj_ia S (sq_E g 6)) (sj_ia S (sq_E g 8)) (sj_ia S (sq_E g 10)) = S1 at hW1 hf1 ⊢
      refine sj_if_ne C 30 20 rfl rfl dX6_lay_17 (fun c_17 => ?_) (fun c_17 => ?_)
      · exact hb.elim (fun h => absurd c_17 (by rw [decide_eq_false h]; decide)) (fun h => sq_tf h (sj_wi_in c_1 (Int32.not_lt.mpr (Int32.not_lt.mp c_7))))
      · exact sj_throw C hR hl rfl sj_Ex_45 (wr_6 _ (List.mem_of_getElem? (i := 21) (by decide +kernel))) (wr_6 _ (List.mem_of_getElem? (i := 22) (by decide +kernel))) (text := "no complete sheet in the buffer, or no such age") (by decide) dX6_lay_20 dX6_lay_23 dX6_lay_24 dX6_lay_26 dX6_lay_29 rfl (by first | exact ⟨hf1, hW1⟩ | exact ⟨sq_fr_id, hW⟩)
set_option maxRecDepth 100000 in
set_option maxHeartbeats 250000 in
theorem ct_X6_lay_2 (l : Launch) {S : sj_St} {g : Nat → Nat} {m : Nat → Int32} {hs : Bool} {ms : Nat → Int32} {p q : Nat} {Q : Nat → Nat → Int32} {n : Nat} {B : Nat → Int32} (hW : sq_W S g m hs ms p q Q n B) (hI : sj_inv m) (hl : l.stackTraces = false) (age : Int32) (ha : sj_wi age 0 99 = true) {f0 : Nat → Int32} (hok : (sj_sht B n f0).1 = -1) (h8 : m 9 = 8) : sj_CtX l mX6_lay [.ref (g 141), .int age] S "java/lang/IllegalStateException" (fun T => sq_fr (sq_Cl g) S T ∧ sq_W T g m hs ms p q Q n B) := by
  refine sj_startX ([some (.ref (g 141)), some (.int age), none, none]) (by decide +kernel) rfl rfl (fun X hX C hR => ?_)
  subst hX
  obtain ⟨⟨⟨kd_x, rf_x_0, rf_x_1, rf_x_2, rf_x_3⟩, hTl, hHl, hinj⟩, ⟨hT, h4, hT1⟩, hK3, ⟨hH1, hp6, hH2, hq6, hQ⟩, hX, hB⟩ := id hW
  have kd_t := hT.1.1
  have rf_t_4 := hT.1.2.2.2.2.1.1
  have rf_t_5 := hT.1.2.2.2.2.2.1.1
  have hol := hT.1.2.2.2.2.1.2
  have kd_o := hol.1
  have hset := hT.1.2.2.2.2.2.1.2
  have kd_se := hset.1
  have kd_tx := hX.1
  have kd_hi := hHl.1
  have h3 : sj_fi S (g 0) 3 = m 9 := hT.2.1.1
  have h6 : sj_fi S (g 0) 6 = m 12 := hT.2.1.2.1
  have h7 : sj_fi S (g 0) 7 = m 13 := hT.2.1.2.2
  have hRo := hT.2.2.2.2.1
  obtain ⟨h9, hn8⟩ := id hI.1
  have hN28 := hI.2.1.2
  have hv := sj_inv_oav hI
  have hn60 := hX.2.2.2.2.2.2.1.2.1
  obtain ⟨-, -, hcm, hrs⟩ := sq_rs_eq hB hn60 f0 (sj_ia S (sq_E g 4))
  obtain ⟨ha1, ha2⟩ := sj_wi_iff.mp ha
  rw [decide_eq_true hok] at hcm
  refine sj_iload_n C 1 rfl dX6_lay_0 rfl rfl ?_
  refine sj_if_lt C 20 4 rfl rfl dX6_lay_1 (fun c_1 => ?_) (fun c_1 => ?_)
  · exact absurd ha1 (Int32.not_le.mpr c_1)
  · refine sj_iload_n C 5 rfl dX6_lay_4 rfl rfl ?_
    refine sj_bipush C (99) 7 rfl dX6_lay_5 (by decide) ?_
    refine sj_icmp_gt C 20 10 rfl rfl dX6_lay_7 (fun c_7 => ?_) (fun c_7 => ?_)
    · exact absurd ha2 (Int32.not_le.mpr c_7)
    · refine sj_aload_n C 11 rfl dX6_lay_10 rfl rfl ?_
      refine sj_getr C 14 rfl fd_X6_10 dX6_lay_11 kd_x rf_x_0 ?_
      refine sj_callVd C 17 rfl dX6_lay_14 cv_X6_37 rfl (ct_X5_readSheet _ hX) rfl rfl rfl ⟨_, _, kd_tx, rfl, rfl, by decide⟩ ⟨rfl, rfl⟩ ?_
      obtain ⟨hW1, hf1⟩ : sq_W (sq_xr S (g 128) (sq_E g) (sq_rs B n (sj_ia S (sq_E g 4))) 0 (sj_ia S (sq_E g 6)) (sj_ia S (sq_E g 8)) (sj_ia S (sq_E g 10))) g m hs ms p q Q n B ∧ sq_fr (sq_Cl g) S (sq_xr S (g 128) (sq_E g) (sq_rs B n (sj_ia S (sq_E g 4))) 0 (sj_ia S (sq_E g 6)) (sj_ia S (sq_E g 8)) (sj_ia S (sq_E g 10))) := sq_W_text hW (sq_fr_xs (s := (sq_rs B n (sj_ia S (sq_E g 4))).1) (k := (sq_rs B n (sj_ia S (sq_E g 4))).2.1) (q := 0) (fn := (sq_rs B n (sj_ia S (sq_E g 4))).2.2) (fk := sj_ia S (sq_E g 6)) (ff := sj_ia S (sq_E g 8)) (fs := sj_ia S (sq_E g 10)) rfl) (sq_xl_xs hX) hB
      rw [hcm]
      generalize sq_xr S (g 128) (sq_E g) (sq_rs B n (sj_ia S (sq_E g 4))) 0 (sj_ia S (sq_E g 6)) (sj_ia S (sq_E g 8)) (sj_ia S (sq_E g 10)) = S1 at hW1 hf1 ⊢
      obtain ⟨⟨⟨kd_x, rf_x_0, rf_x_1, rf_x_2, rf_x_3⟩, hTl, hHl, hinj⟩, ⟨hT, h4, hT1⟩, hK3, ⟨hH1, hp6, hH2, hq6, hQ⟩, hX, hB⟩ := id hW1
      have kd_t := hT.1.1
      have rf_t_4 := hT.1.2.2.2.2.1.1
      have rf_t_5 := hT.1.2.2.2.2.2.1.1
      have hol := hT.1.2.2.2.2.1.2
      have kd_o := hol.1
      have hset := hT.1.2.2.2.2.2.1.2
      have kd_se := hset.1
      have kd_tx := hX.1
      have kd_hi := hHl.1
      have h3 : sj_fi S1 (g 0) 3 = m 9 := hT.2.1.1
      have h6 : sj_fi S1 (g 0) 6 = m 12 := hT.2.1.2.1
      have h7 : sj_fi S1 (g 0) 7 = m 13 := hT.2.1.2.2
      have hRo := hT.2.2.2.2.1
      obtain ⟨h9, hn8⟩ := id hI.1
      have hN28 := hI.2.1.2
      have hv := sj_inv_oav hI
      refine sj_if_ne C 30 20 rfl rfl dX6_lay_17 (fun c_17 => ?_) (fun c_17 => ?_)
      · refine sj_aload_n C 31 rfl dX6_lay_30 rfl rfl ?_
        refine sj_getr C 34 rfl fd_X6_19 dX6_lay_31 kd_x rf_x_1 ?_
        refine sj_getI C 37 rfl fd_X6_48 dX6_lay_34 kd_t ?_
        rw [h3]
        refine sj_bipush C (8) 39 rfl dX6_lay_37 (by decide) ?_
        refine sj_icmp_lt C 52 42 rfl rfl dX6_lay_39 (fun c_39 => ?_) (fun c_39 => ?_)
        · exact absurd c_39 (by rw [h8]; decide)
        · exact sj_throw C hR hl rfl sj_Ex_56 (wr_6 _ (List.mem_of_getElem? (i := 23) (by decide +kernel))) (wr_7 _ (List.mem_of_getElem? (i := 0) (by decide +kernel))) (text := "the table is full") (by decide) dX6_lay_42 dX6_lay_45 dX6_lay_46 dX6_lay_48 dX6_lay_51 rfl (⟨hf1, hW1⟩)
      · exact absurd c_17 (by decide)
