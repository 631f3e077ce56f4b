/-! THE CLASS ITSELF: its object, and what it tells -/
/-- where all things lie: eight tables of sixteen cells, the text, the history, the object, the reference -/
def sq_D (g : Nat → Nat) (t : Nat) : Nat → Nat := fun i => g (16 * t + i)
def sq_E (g : Nat → Nat) : Nat → Nat := fun i => g (128 + i)
def sq_F (g : Nat → Nat) (a : Nat) : Prop := ∃ i, i < 160 ∧ a = g i
/-- the cells of the class -/
def sq_Cl (g : Nat → Nat) (a : Nat) : Prop := ∃ i, i < 142 ∧ a = g i
def sq_CL (S : sj_St) (g : Nat → Nat) : Prop := (sj_kd S (g 141) = some 6 ∧ sj_rf S (g 141) 0 = some (g 128) ∧ sj_rf S (g 141) 1 = some (g 0) ∧ sj_rf S (g 141) 2 = some (g 139) ∧ sj_rf S (g 141) 3 = some (g 16)) ∧ (∀ t, t < 8 → sq_tl S (sq_D g t)) ∧ sq_hl S (g 139) (g 140) (fun j => sq_D g (2 + j)) ∧ ∀ i j, i < 160 → j < 160 → g i = g j → i = j
/-- the place of the j-th newest saved state -/
def sq_pl (p j : Nat) : Nat := 2 + (p + 6 - j) % 6
def sq_W (S : sj_St) (g : Nat → Nat) (m : Nat → Int32) (hs : Bool) (ms : Nat → Int32) (p q : Nat) (Q : Nat → Nat → Int32) (n : Nat) (B : Nat → Int32) : Prop := sq_CL S g ∧ (sq_T S (sq_F g) (sq_D g 0) m ∧ sj_fi S (g 141) 4 = sj_bi hs ∧ (hs = true → sq_T S (sq_F g) (sq_D g 1) ms)) ∧ (∀ t, t < 8 → sq_k3 S (sq_D g t)) ∧ (sj_fi S (g 139) 1 = nI p ∧ p < 6 ∧ sj_fi S (g 139) 2 = nI q ∧ q ≤ 6 ∧ ∀ j, j < q → sq_T S (sq_F g) (sq_D g (sq_pl p j)) (Q j)) ∧ sq_xl S (g 128) (sq_E g) n B ∧ sq_cd B n
theorem sj_isn_hi {m : Nat → Int32} (hI : sj_inv m) {v : Int32} (h : ¬ v < m 9) : sj_isn m v = false := by
  cases hc : sj_isn m v
  · rfl
  · obtain ⟨i, hi, rfl⟩ := sj_isn_n hI.1.1 hI.1.2 hc
    exact absurd (by rw [hI.1.1]; exact nI_lt hi (by have := hI.1.2; omega)) h
theorem sj_isn_in {m : Nat → Int32} (hI : sj_inv m) {v : Int32} (h0 : 0 ≤ v) (h : v < m 9) : sj_isn m v = true := by
  obtain ⟨j, hj, rfl⟩ := nI_of (Int32.not_lt.mpr h0)
  have hn8 := hI.1.2
  have h9 := hI.1.1
  rw [h9] at h
  have hlt := (nI_ltI hj (by omega)).mp h
  unfold sj_isn
  rw [h9, show nI (sj_tn (m 9)) - 1 = nI (sj_tn (m 9) - 1) from sj_nsub (b := 1) (by omega), sj_wi_n (by omega) (by omega)]
  exact decide_eq_true (by omega)
set_option maxRecDepth 100000 in
set_option maxHeartbeats 150000 in
theorem ct_X6_isThere (l : Launch) {S : sj_St} {g : Nat → Nat} {m : Nat → Int32} {hs : Bool} {ms : Nat → Int32} {p q : Nat} {Q : Nat → Nat → Int32} {n : Nat} {B : Nat → Int32} (hW : sq_W S g m hs ms p q Q n B) (hI : sj_inv m) (v : Int32) : sj_Ctr l mX6_isThere [.ref (g 141), .int v] S (sj_eq (some (.int (sj_bi (sj_isn m v)))) S) := by
  refine sj_start ([some (.ref (g 141)), some (.int v)]) (by decide +kernel) rfl rfl (fun X hX C hR => ?_)
  subst hX
  obtain ⟨⟨⟨kd_x, rf_x_0, rf_x_1, rf_x_2, rf_x_3⟩, hTl, hHl, hinj⟩, ⟨hT, h4, hT1⟩, hK3, ⟨hH1, hp6, hH2, hq6, hQ⟩, hX, hB⟩ := id hW
  have kd_t := hT.1.1
  have rf_t_4 := hT.1.2.2.2.2.1.1
  have rf_t_5 := hT.1.2.2.2.2.2.1.1
  have hol := hT.1.2.2.2.2.1.2
  have kd_o := hol.1
  have hset := hT.1.2.2.2.2.2.1.2
  have kd_se := hset.1
  have kd_tx := hX.1
  have kd_hi := hHl.1
  have h3 : sj_fi S (g 0) 3 = m 9 := hT.2.1.1
  have h6 : sj_fi S (g 0) 6 = m 12 := hT.2.1.2.1
  have h7 : sj_fi S (g 0) 7 = m 13 := hT.2.1.2.2
  have hRo := hT.2.2.2.2.1
  obtain ⟨h9, hn8⟩ := id hI.1
  have hN28 := hI.2.1.2
  have hv := sj_inv_oav hI
  refine sj_iload_n C 1 rfl dX6_isThere_0 rfl rfl ?_
  refine sj_if_lt C 19 4 rfl rfl dX6_isThere_1 (fun c_1 => ?_) (fun c_1 => ?_)
  · refine sj_iconstv C (0) 20 rfl dX6_isThere_19 rfl ?_
    refine sj_zret C hR rfl rfl rfl dX6_isThere_20 ?_
    refine ⟨congrArg (fun z => some (Value.int z)) ?_, rfl⟩
    rw [show sj_isn m v = false from sj_wi_lo c_1]
    rfl
  · refine sj_iload_n C 5 rfl dX6_isThere_4 rfl rfl ?_
    refine sj_aload_n C 6 rfl dX6_isThere_5 rfl rfl ?_
    refine sj_getr C 9 rfl fd_X6_19 dX6_isThere_6 kd_x rf_x_1 ?_
    refine sj_getI C 12 rfl fd_X6_48 dX6_isThere_9 kd_t ?_
    rw [h3]
    refine sj_icmp_ge C 19 15 rfl rfl dX6_isThere_12 (fun c_12 => ?_) (fun c_12 => ?_)
    · refine sj_iconstv C (0) 20 rfl dX6_isThere_19 rfl ?_
      refine sj_zret C hR rfl rfl rfl dX6_isThere_20 ?_
      refine ⟨congrArg (fun z => some (Value.int z)) ?_, rfl⟩
      rw [show sj_isn m v = false from sj_isn_hi hI (sj_nlt.mpr c_12)]
      rfl
    · refine sj_iconstv C (1) 16 rfl dX6_isThere_15 rfl ?_
      refine sj_goto C 20 rfl dX6_isThere_16 ?_
      refine sj_zret C hR rfl rfl rfl dX6_isThere_20 ?_
      refine ⟨congrArg (fun z => some (Value.int z)) ?_, rfl⟩
      rw [show sj_isn m v = true from sj_isn_in hI (sj_nlt.mp c_1) (sj_nle.mp c_12)]
      rfl
set_option maxRecDepth 100000 in
set_option maxHeartbeats 150000 in
theorem ct_X6_areThere (l : Launch) {S : sj_St} {g : Nat → Nat} {m : Nat → Int32} {hs : Bool} {ms : Nat → Int32} {p q : Nat} {Q : Nat → Nat → Int32} {n : Nat} {B : Nat → Int32} (hW : sq_W S g m hs ms p q Q n B) (hI : sj_inv m) (v w : Int32) : sj_Ctr l mX6_areThere [.ref (g 141), .int v, .int w] S (sj_eq (some (.int (sj_bi (sj_isn m v && sj_isn m w)))) S) := by
  refine sj_start ([some (.ref (g 141)), some (.int v), some (.int w)]) (by decide +kernel) rfl rfl (fun X hX C hR => ?_)
  subst hX
  obtain ⟨⟨⟨kd_x, rf_x_0, rf_x_1, rf_x_2, rf_x_3⟩, hTl, hHl, hinj⟩, ⟨hT, h4, hT1⟩, hK3, ⟨hH1, hp6, hH2, hq6, hQ⟩, hX, hB⟩ := id hW
  have kd_t := hT.1.1
  have rf_t_4 := hT.1.2.2.2.2.1.1
  have rf_t_5 := hT.1.2.2.2.2.2.1.1
  have hol := hT.1.2.2.2.2.1.2
  have kd_o := hol.1
  have hset := hT.1.2.2.2.2.2.1.2
  have kd_se := hset.1
  have kd_tx := hX.1
  have kd_hi := hHl.1
  have h3 : sj_fi S (g 0) 3 = m 9 := hT.2.1.1
  have h6 : sj_fi S (g 0) 6 = m 12 := hT.2.1.2.1
  have h7 : sj_fi S (g 0) 7 = m 13 := hT.2.1.2.2
  have hRo := hT.2.2.2.2.1
  obtain ⟨h9, hn8⟩ := id hI.1
  have hN28 := hI.2.1.2
  have hv := sj_inv_oav hI
  refine sj_aload_n C 1 rfl dX6_areThere_0 rfl rfl ?_
  refine sj_iload_n C 2 rfl dX6_areThere_1 rfl rfl ?_
  refine sj_callVd C 5 rfl dX6_areThere_2 cv_X6_83 rfl (ct_X6_isThere _ hW hI v) rfl rfl rfl ⟨_, _, kd_x, rfl, rfl, by decide⟩ ⟨rfl, rfl⟩ ?_
  refine sj_if_eq C 20 8 rfl rfl dX6_areThere_5 (fun c_5 => ?_) (fun c_5 => ?_)
  · refine sj_iconstv C (0) 21 rfl dX6_areThere_20 rfl ?_
    refine sj_zret C hR rfl rfl rfl dX6_areThere_21 ?_
    refine ⟨congrArg (fun z => some (Value.int z)) ?_, rfl⟩
    rw [sj_bi0.mp c_5]
    rfl
  · refine sj_aload_n C 9 rfl dX6_areThere_8 rfl rfl ?_
    refine sj_iload_n C 10 rfl dX6_areThere_9 rfl rfl ?_
    refine sj_callVd C 13 rfl dX6_areThere_10 cv_X6_83 rfl (ct_X6_isThere _ hW hI w) rfl rfl rfl ⟨_, _, kd_x, rfl, rfl, by decide⟩ ⟨rfl, rfl⟩ ?_
    refine sj_if_eq C 20 16 rfl rfl dX6_areThere_13 (fun c_13 => ?_) (fun c_13 => ?_)
    · refine sj_iconstv C (0) 21 rfl dX6_areThere_20 rfl ?_
      refine sj_zret C hR rfl rfl rfl dX6_areThere_21 ?_
      refine ⟨congrArg (fun z => some (Value.int z)) ?_, rfl⟩
      rw [sj_bin.mp c_5, sj_bi0.mp c_13]
      rfl
    · refine sj_iconstv C (1) 17 rfl dX6_areThere_16 rfl ?_
      refine sj_goto C 21 rfl dX6_areThere_17 ?_
      refine sj_zret C hR rfl rfl rfl dX6_areThere_21 ?_
      refine ⟨congrArg (fun z => some (Value.int z)) ?_, rfl⟩
      rw [sj_bin.mp c_5, sj_bin.mp c_13]
      rfl
theorem sj_tc_hi (m : Nat → Int32) (q : Int32) {w : Nat} (h : 8 ≤ w) (h2 : w < 17) : sj_tc m q w = m (w - 8) := by
  obtain rfl | rfl | rfl | rfl | rfl | rfl | rfl | rfl | rfl : w = 8 ∨ w = 9 ∨ w = 10 ∨ w = 11 ∨ w = 12 ∨ w = 13 ∨ w = 14 ∨ w = 15 ∨ w = 16 := by omega
  all_goals rfl
set_option maxRecDepth 100000 in
set_option maxHeartbeats 150000 in
theorem ct_X6_toldCount (l : Launch) {S : sj_St} {g : Nat → Nat} {m : Nat → Int32} {hs : Bool} {ms : Nat → Int32} {p q : Nat} {Q : Nat → Nat → Int32} {n : Nat} {B : Nat → Int32} (hW : sq_W S g m hs ms p q Q n B) (hI : sj_inv m) {w : Nat} (hw : w < 18) : sj_Ctr l mX6_toldCount [.ref (g 141), .int (nI w)] S (sj_eq (some (.int (sj_tc m (nI q) w))) S) := by
  refine sj_start ([some (.ref (g 141)), some (.int (nI w))]) (by decide +kernel) rfl rfl (fun X hX C hR => ?_)
  subst hX
  obtain ⟨⟨⟨kd_x, rf_x_0, rf_x_1, rf_x_2, rf_x_3⟩, hTl, hHl, hinj⟩, ⟨hT, h4, hT1⟩, hK3, ⟨hH1, hp6, hH2, hq6, hQ⟩, hX, hB⟩ := id hW
  have kd_t := hT.1.1
  have rf_t_4 := hT.1.2.2.2.2.1.1
  have rf_t_5 := hT.1.2.2.2.2.2.1.1
  have hol := hT.1.2.2.2.2.1.2
  have kd_o := hol.1
  have hset := hT.1.2.2.2.2.2.1.2
  have kd_se := hset.1
  have kd_tx := hX.1
  have kd_hi := hHl.1
  have h3 : sj_fi S (g 0) 3 = m 9 := hT.2.1.1
  have h6 : sj_fi S (g 0) 6 = m 12 := hT.2.1.2.1
  have h7 : sj_fi S (g 0) 7 = m 13 := hT.2.1.2.2
  have hRo := hT.2.2.2.2.1
  obtain ⟨h9, hn8⟩ := id hI.1
  have hN28 := hI.2.1.2
  have hv := sj_inv_oav hI
  refine sj_iload_n C 1 rfl dX6_toldCount_0 rfl rfl ?_
  refine sj_bipush C (17) 3 rfl dX6_toldCount_1 (by decide) ?_
  refine sj_icmp_ne C 14 6 rfl rfl dX6_toldCount_3 (fun c_3 => ?_) (fun c_3 => ?_)
  · refine sj_iload_n C 15 rfl dX6_toldCount_14 rfl rfl ?_
    refine sj_bipush C (8) 17 rfl dX6_toldCount_15 (by decide) ?_
    refine sj_icmp_lt C 35 20 rfl rfl dX6_toldCount_17 (fun c_17 => ?_) (fun c_17 => ?_)
    · have h8w : w < 8 := (nI_ltI (b := 8) (by omega) (by omega)).mp c_17
      refine sj_aload_n C 36 rfl dX6_toldCount_35 rfl rfl ?_
      refine sj_getr C 39 rfl fd_X6_19 dX6_toldCount_36 kd_x rf_x_1 ?_
      refine sj_iload_n C 40 rfl dX6_toldCount_39 rfl rfl ?_
      refine sj_callVd C 43 rfl dX6_toldCount_40 cv_X6_281 rfl (ct_X4_numberOfAll _ hT hI (nI q) (w := w) (by omega)) rfl rfl rfl ⟨_, _, kd_t, rfl, rfl, by decide⟩ ⟨rfl, rfl⟩ ?_
      refine sj_iret C hR rfl rfl dX6_toldCount_43 ?_
      refine ⟨congrArg (fun z => some (Value.int z)) ?_, rfl⟩
      rfl
    · have h8w : 8 ≤ w := Nat.not_lt.mp fun h8 => c_17 (nI_lt (b := 8) h8 (by omega))
      have h17 : w ≠ 17 := fun e => c_3 (by rw [e]; rfl)
      refine sj_aload_n C 21 rfl dX6_toldCount_20 rfl rfl ?_
      refine sj_getr C 24 rfl fd_X6_19 dX6_toldCount_21 kd_x rf_x_1 ?_
      refine sj_getr C 27 rfl fd_X6_109 dX6_toldCount_24 kd_t rf_t_5 ?_
      refine sj_iload_n C 28 rfl dX6_toldCount_27 rfl rfl ?_
      refine sj_bipush C (8) 30 rfl dX6_toldCount_28 (by decide) ?_
      refine sj_isub C 31 rfl dX6_toldCount_30 ?_
      refine sj_callVd C 34 rfl dX6_toldCount_31 cv_X6_112 rfl (ct_X2_at _ hset _) rfl rfl rfl ⟨_, _, kd_se, rfl, rfl, by decide⟩ ⟨rfl, rfl⟩ ?_
      rw [show nI w - 8 = nI (w - 8) from sj_nsub (a := w) (b := 8) h8w, sj_at_nI _ (by omega) (by omega), show sj_ia S (sq_D g 0 15) (w - 8) = m (w - 8) from hT.2.2.2.1 (w - 8) (by omega)]
      refine sj_iret C hR rfl rfl dX6_toldCount_34 ?_
      refine ⟨congrArg (fun z => some (Value.int z)) ?_, rfl⟩
      exact (sj_tc_hi m (nI q) h8w (by omega)).symm
  · refine sj_aload_n C 7 rfl dX6_toldCount_6 rfl rfl ?_
    refine sj_getr C 10 rfl fd_X6_26 dX6_toldCount_7 kd_x rf_x_2 ?_
    refine sj_getI C 13 rfl fd_X6_187 dX6_toldCount_10 kd_hi ?_
    rw [hH2]
    refine sj_iret C hR rfl rfl dX6_toldCount_13 ?_
    refine ⟨congrArg (fun z => some (Value.int z)) ?_, rfl⟩
    have e17 : w = 17 := (nI_eq (b := 17) (by omega) (by omega)).mp c_3
    rw [e17]
    rfl
set_option maxRecDepth 100000 in
set_option maxHeartbeats 150000 in
theorem ct_X6_sheet (l : Launch) {S : sj_St} {g : Nat → Nat} {m : Nat → Int32} {hs : Bool} {ms : Nat → Int32} {p q : Nat} {Q : Nat → Nat → Int32} {n : Nat} {B : Nat → Int32} (hW : sq_W S g m hs ms p q Q n B) (hI : sj_inv m) (v : Int32) (hsv : sj_isn m v = true) (w : Int32) (hsw : sj_wi w 0 6 = true) : sj_Ctr l mX6_sheet [.ref (g 141), .int v, .int w] S (sj_eq (some (.int (sj_ts m (sj_tn v) (sj_tn w)))) S) := by
  refine sj_start ([some (.ref (g 141)), some (.int v), some (.int w)]) (by decide +kernel) rfl rfl (fun X hX C hR => ?_)
  subst hX
  obtain ⟨⟨⟨kd_x, rf_x_0, rf_x_1, rf_x_2, rf_x_3⟩, hTl, hHl, hinj⟩, ⟨hT, h4, hT1⟩, hK3, ⟨hH1, hp6, hH2, hq6, hQ⟩, hX, hB⟩ := id hW
  have kd_t := hT.1.1
  have rf_t_4 := hT.1.2.2.2.2.1.1
  have rf_t_5 := hT.1.2.2.2.2.2.1.1
  have hol := hT.1.2.2.2.2.1.2
  have kd_o := hol.1
  have hset := hT.1.2.2.2.2.2.1.2
  have kd_se := hset.1
  have kd_tx := hX.1
  have kd_hi := hHl.1
  have h3 : sj_fi S (g 0) 3 = m 9 := hT.2.1.1
  have h6 : sj_fi S (g 0) 6 = m 12 := hT.2.1.2.1
  have h7 : sj_fi S (g 0) 7 = m 13 := hT.2.1.2.2
  have hRo := hT.2.2.2.2.1
  obtain ⟨h9, hn8⟩ := id hI.1
  have hN28 := hI.2.1.2
  have hv := sj_inv_oav hI
  have hi0 := hsv
  obtain ⟨i, hi, rfl⟩ := sj_isn_n h9 hn8 hsv
  have ei : sj_tn (nI i) = i := sj_tn_nI (by omega)
  obtain ⟨w, hw, rfl⟩ := sj_wi_nI (n := 6) (by omega) hsw
  have ew : sj_tn (nI w) = w := sj_tn_nI (by omega)
  refine sj_aload_n C 1 rfl dX6_sheet_0 rfl rfl ?_
  refine sj_iload_n C 2 rfl dX6_sheet_1 rfl rfl ?_
  refine sj_callVd C 5 rfl dX6_sheet_2 cv_X6_83 rfl (ct_X6_isThere _ hW hI _) rfl rfl rfl ⟨_, _, kd_x, rfl, rfl, by decide⟩ ⟨rfl, rfl⟩ ?_
  refine sj_if_ne C 18 8 rfl rfl dX6_sheet_5 (fun c_5 => ?_) (fun c_5 => ?_)
  · refine sj_iload_n C 19 rfl dX6_sheet_18 rfl rfl ?_
    refine sj_if_lt C 28 22 rfl rfl dX6_sheet_19 (fun c_19 => ?_) (fun c_19 => ?_)
    · exact absurd c_19 (nI_pos (by omega))
    · refine sj_iload_n C 23 rfl dX6_sheet_22 rfl rfl ?_
      refine sj_bipush C (7) 25 rfl dX6_sheet_23 (by decide) ?_
      refine sj_icmp_lt C 38 28 rfl rfl dX6_sheet_25 (fun c_25 => ?_) (fun c_25 => ?_)
      · refine sj_aload_n C 39 rfl dX6_sheet_38 rfl rfl ?_
        refine sj_getr C 42 rfl fd_X6_19 dX6_sheet_39 kd_x rf_x_1 ?_
        refine sj_iload_n C 43 rfl dX6_sheet_42 rfl rfl ?_
        refine sj_iload_n C 44 rfl dX6_sheet_43 rfl rfl ?_
        refine sj_callVd C 47 rfl dX6_sheet_44 cv_X6_200 rfl (ct_X4_numberOfSheet _ hT hI hi (w := w) (by omega)) rfl rfl rfl ⟨_, _, kd_t, rfl, rfl, by decide⟩ ⟨rfl, rfl⟩ ?_
        refine sj_iret C hR rfl rfl dX6_sheet_47 ?_
        refine ⟨congrArg (fun z => some (Value.int z)) ?_, rfl⟩
        rw [ei, ew]
      · exact absurd (show nI w < nI 7 from nI_lt (by omega) (by omega)) c_25
  · exact absurd c_5 (by rw [hi0]; decide)
set_option maxRecDepth 100000 in
set_option maxHeartbeats 150000 in
theorem ct_X6_stroke (l : Launch) {S : sj_St} {g : Nat → Nat} {m : Nat → Int32} {hs : Bool} {ms : Nat → Int32} {p q : Nat} {Q : Nat → Nat → Int32} {n : Nat} {B : Nat → Int32} (hW : sq_W S g m hs ms p q Q n B) (hI : sj_inv m) (v : Int32) (hsv : sj_isn m v = true) (k w : Int32) (hsk : sj_wi k 0 7 = true) (hsw : sj_wi w 0 4 = true) : sj_Ctr l mX6_stroke [.ref (g 141), .int v, .int k, .int w] S (sj_eq (some (.int (sj_tst m (sj_tn v) (sj_tn k) (sj_tn w)))) S) := by
  refine sj_start ([some (.ref (g 141)), some (.int v), some (.int k), some (.int w)]) (by decide +kernel) rfl rfl (fun X hX C hR => ?_)
  subst hX
  obtain ⟨⟨⟨kd_x, rf_x_0, rf_x_1, rf_x_2, rf_x_3⟩, hTl, hHl, hinj⟩, ⟨hT, h4, hT1⟩, hK3, ⟨hH1, hp6, hH2, hq6, hQ⟩, hX, hB⟩ := id hW
  have kd_t := hT.1.1
  have rf_t_4 := hT.1.2.2.2.2.1.1
  have rf_t_5 := hT.1.2.2.2.2.2.1.1
  have hol := hT.1.2.2.2.2.1.2
  have kd_o := hol.1
  have hset := hT.1.2.2.2.2.2.1.2
  have kd_se := hset.1
  have kd_tx := hX.1
  have kd_hi := hHl.1
  have h3 : sj_fi S (g 0) 3 = m 9 := hT.2.1.1
  have h6 : sj_fi S (g 0) 6 = m 12 := hT.2.1.2.1
  have h7 : sj_fi S (g 0) 7 = m 13 := hT.2.1.2.2
  have hRo := hT.2.2.2.2.1
  obtain ⟨h9, hn8⟩ := id hI.1
  have hN28 := hI.2.1.2
  have hv := sj_inv_oav hI
  have hi0 := hsv
  obtain ⟨i, hi, rfl⟩ := sj_isn_n h9 hn8 hsv
  have ei : sj_tn (nI i) = i := sj_tn_nI (by omega)
  obtain ⟨k, hk, rfl⟩ := sj_wi_nI (n := 7) (by omega) hsk
  have ek : sj_tn (nI k) = k := sj_tn_nI (by omega)
  obtain ⟨w, hw, rfl⟩ := sj_wi_nI (n := 4) (by omega) hsw
  have ew : sj_tn (nI w) = w := sj_tn_nI (by omega)
  obtain ⟨a, ha, hsm⟩ := hT.2.2.2.2.2 i hi
  obtain ⟨rn, cn, rm, cm, hsh, hF, hst, hmk⟩ := id hsm
  obtain ⟨kd_a, fi_a, nn8, rf_a_1, hrn, rf_a_2, hrm⟩ := id hsh
  refine sj_aload_n C 1 rfl dX6_stroke_0 rfl rfl ?_
  refine sj_iload_n C 2 rfl dX6_stroke_1 rfl rfl ?_
  refine sj_callVd C 5 rfl dX6_stroke_2 cv_X6_83 rfl (ct_X6_isThere _ hW hI _) rfl rfl rfl ⟨_, _, kd_x, rfl, rfl, by decide⟩ ⟨rfl, rfl⟩ ?_
  refine sj_if_ne C 18 8 rfl rfl dX6_stroke_5 (fun c_5 => ?_) (fun c_5 => ?_)
  · refine sj_iload_n C 19 rfl dX6_stroke_18 rfl rfl ?_
    refine sj_if_lt C 37 22 rfl rfl dX6_stroke_19 (fun c_19 => ?_) (fun c_19 => ?_)
    · exact absurd c_19 (nI_pos (by omega))
    · refine sj_iload_n C 23 rfl dX6_stroke_22 rfl rfl ?_
      refine sj_bipush C (8) 25 rfl dX6_stroke_23 (by decide) ?_
      refine sj_icmp_ge C 37 28 rfl rfl dX6_stroke_25 (fun c_25 => ?_) (fun c_25 => ?_)
      · exact absurd c_25 (nI_ge (b := 8) (by omega) (by omega))
      · refine sj_iload_n C 29 rfl dX6_stroke_28 rfl rfl ?_
        refine sj_if_lt C 37 32 rfl rfl dX6_stroke_29 (fun c_29 => ?_) (fun c_29 => ?_)
        · exact absurd c_29 (nI_pos (by omega))
        · refine sj_iload_n C 33 rfl dX6_stroke_32 rfl rfl ?_
          refine sj_iconstv C (5) 34 rfl dX6_stroke_33 rfl ?_
          refine sj_icmp_lt C 47 37 rfl rfl dX6_stroke_34 (fun c_34 => ?_) (fun c_34 => ?_)
          · refine sj_aload_n C 48 rfl dX6_stroke_47 rfl rfl ?_
            refine sj_getr C 51 rfl fd_X6_19 dX6_stroke_48 kd_x rf_x_1 ?_
            refine sj_iload_n C 52 rfl dX6_stroke_51 rfl rfl ?_
            refine sj_callVd C 55 rfl dX6_stroke_52 cv_X6_205 rfl (ct_X4_sheetAt _ hT (i := i) (by omega) ha) rfl rfl rfl ⟨_, _, kd_t, rfl, rfl, by decide⟩ ⟨rfl, rfl⟩ ?_
            refine sj_iload_n C 56 rfl dX6_stroke_55 rfl rfl ?_
            refine sj_iload_n C 57 rfl dX6_stroke_56 rfl rfl ?_
            refine sj_callVd C 60 rfl dX6_stroke_57 cv_X6_209 rfl (ct_X3_toldNumber _ hsh k w (by omega) (by omega)) rfl rfl rfl ⟨_, _, kd_a, rfl, rfl, by decide⟩ ⟨rfl, rfl⟩ ?_
            refine sj_iret C hR rfl rfl dX6_stroke_60 ?_
            refine ⟨congrArg (fun z => some (Value.int z)) ?_, rfl⟩
            rw [ei, ek, ew]
            unfold sj_tst
            by_cases hc : nI (sj_ns m i) ≤ nI k
            · rw [if_pos hc, if_pos hc]
            · have hkn : k < sj_ns m i := Nat.not_le.mp fun h8 => hc (nI_le h8 (by omega))
              rw [if_neg hc, if_neg hc, show sj_ss (sj_ia S cn) k w = sj_os m i k w from hst k w hkn (by omega)]
          · exact absurd (show nI w < nI 5 from nI_lt (by omega) (by omega)) c_34
  · exact absurd c_5 (by rw [hi0]; decide)
set_option maxRecDepth 100000 in
set_option maxHeartbeats 150000 in
theorem ct_X6_mark (l : Launch) {S : sj_St} {g : Nat → Nat} {m : Nat → Int32} {hs : Bool} {ms : Nat → Int32} {p q : Nat} {Q : Nat → Nat → Int32} {n : Nat} {B : Nat → Int32} (hW : sq_W S g m hs ms p q Q n B) (hI : sj_inv m) (v : Int32) (hsv : sj_isn m v = true) (j : Int32) (hsj : sj_wi j 0 5 = true) : sj_Ctr l mX6_mark [.ref (g 141), .int v, .int j] S (sj_eq (some (.int (sj_mk m (sj_tn v) (sj_tn j) + 1000))) S) := by
  refine sj_start ([some (.ref (g 141)), some (.int v), some (.int j)]) (by decide +kernel) rfl rfl (fun X hX C hR => ?_)
  subst hX
  obtain ⟨⟨⟨kd_x, rf_x_0, rf_x_1, rf_x_2, rf_x_3⟩, hTl, hHl, hinj⟩, ⟨hT, h4, hT1⟩, hK3, ⟨hH1, hp6, hH2, hq6, hQ⟩, hX, hB⟩ := id hW
  have kd_t := hT.1.1
  have rf_t_4 := hT.1.2.2.2.2.1.1
  have rf_t_5 := hT.1.2.2.2.2.2.1.1
  have hol := hT.1.2.2.2.2.1.2
  have kd_o := hol.1
  have hset := hT.1.2.2.2.2.2.1.2
  have kd_se := hset.1
  have kd_tx := hX.1
  have kd_hi := hHl.1
  have h3 : sj_fi S (g 0) 3 = m 9 := hT.2.1.1
  have h6 : sj_fi S (g 0) 6 = m 12 := hT.2.1.2.1
  have h7 : sj_fi S (g 0) 7 = m 13 := hT.2.1.2.2
  have hRo := hT.2.2.2.2.1
  obtain ⟨h9, hn8⟩ := id hI.1
  have hN28 := hI.2.1.2
  have hv := sj_inv_oav hI
  have hi0 := hsv
  obtain ⟨i, hi, rfl⟩ := sj_isn_n h9 hn8 hsv
  have ei : sj_tn (nI i) = i := sj_tn_nI (by omega)
  obtain ⟨j, hj, rfl⟩ := sj_wi_nI (n := 5) (by omega) hsj
  have ej : sj_tn (nI j) = j := sj_tn_nI (by omega)
  obtain ⟨a, ha, hsm⟩ := hT.2.2.2.2.2 i hi
  obtain ⟨rn, cn, rm, cm, hsh, hF, hst, hmk⟩ := id hsm
  obtain ⟨kd_a, fi_a, nn8, rf_a_1, hrn, rf_a_2, hrm⟩ := id hsh
  refine sj_aload_n C 1 rfl dX6_mark_0 rfl rfl ?_
  refine sj_iload_n C 2 rfl dX6_mark_1 rfl rfl ?_
  refine sj_callVd C 5 rfl dX6_mark_2 cv_X6_83 rfl (ct_X6_isThere _ hW hI _) rfl rfl rfl ⟨_, _, kd_x, rfl, rfl, by decide⟩ ⟨rfl, rfl⟩ ?_
  refine sj_if_ne C 18 8 rfl rfl dX6_mark_5 (fun c_5 => ?_) (fun c_5 => ?_)
  · refine sj_iload_n C 19 rfl dX6_mark_18 rfl rfl ?_
    refine sj_if_lt C 28 22 rfl rfl dX6_mark_19 (fun c_19 => ?_) (fun c_19 => ?_)
    · exact absurd c_19 (nI_pos (by omega))
    · refine sj_iload_n C 23 rfl dX6_mark_22 rfl rfl ?_
      refine sj_bipush C (6) 25 rfl dX6_mark_23 (by decide) ?_
      refine sj_icmp_lt C 38 28 rfl rfl dX6_mark_25 (fun c_25 => ?_) (fun c_25 => ?_)
      · refine sj_aload_n C 39 rfl dX6_mark_38 rfl rfl ?_
        refine sj_getr C 42 rfl fd_X6_19 dX6_mark_39 kd_x rf_x_1 ?_
        refine sj_iload_n C 43 rfl dX6_mark_42 rfl rfl ?_
        refine sj_callVd C 46 rfl dX6_mark_43 cv_X6_205 rfl (ct_X4_sheetAt _ hT (i := i) (by omega) ha) rfl rfl rfl ⟨_, _, kd_t, rfl, rfl, by decide⟩ ⟨rfl, rfl⟩ ?_
        refine sj_iload_n C 47 rfl dX6_mark_46 rfl rfl ?_
        refine sj_callVd C 50 rfl dX6_mark_47 cv_X6_214 rfl (ct_X3_toldMark _ hsh j (by omega)) rfl rfl rfl ⟨_, _, kd_a, rfl, rfl, by decide⟩ ⟨rfl, rfl⟩ ?_
        refine sj_iret C hR rfl rfl dX6_mark_50 ?_
        refine ⟨congrArg (fun z => some (Value.int z)) ?_, rfl⟩
        rw [ei, ej, hmk j (by omega)]
      · exact absurd (show nI j < nI 6 from nI_lt (by omega) (by omega)) c_25
  · exact absurd c_5 (by rw [hi0]; decide)
set_option maxRecDepth 100000 in
set_option maxHeartbeats 150000 in
theorem ct_X6_compare (l : Launch) {S : sj_St} {g : Nat → Nat} {m : Nat → Int32} {hs : Bool} {ms : Nat → Int32} {p q : Nat} {Q : Nat → Nat → Int32} {n : Nat} {B : Nat → Int32} (hW : sq_W S g m hs ms p q Q n B) (hI : sj_inv m) (v e : Int32) (hsv : sj_isn m v = true) (hsw : sj_isn m e = true) (w : Int32) (hw9 : sj_wi w 0 4 = true) : sj_Ctr l mX6_compare [.ref (g 141), .int v, .int e, .int w] S (sj_eq (some (.int (sj_cps m (sj_tn v) (sj_tn e) (sj_tn w)))) S) := by
  refine sj_start ([some (.ref (g 141)), some (.int v), some (.int e), some (.int w)]) (by decide +kernel) rfl rfl (fun X hX C hR => ?_)
  subst hX
  obtain ⟨⟨⟨kd_x, rf_x_0, rf_x_1, rf_x_2, rf_x_3⟩, hTl, hHl, hinj⟩, ⟨hT, h4, hT1⟩, hK3, ⟨hH1, hp6, hH2, hq6, hQ⟩, hX, hB⟩ := id hW
  have kd_t := hT.1.1
  have rf_t_4 := hT.1.2.2.2.2.1.1
  have rf_t_5 := hT.1.2.2.2.2.2.1.1
  have hol := hT.1.2.2.2.2.1.2
  have kd_o := hol.1
  have hset := hT.1.2.2.2.2.2.1.2
  have kd_se := hset.1
  have kd_tx := hX.1
  have kd_hi := hHl.1
  have h3 : sj_fi S (g 0) 3 = m 9 := hT.2.1.1
  have h6 : sj_fi S (g 0) 6 = m 12 := hT.2.1.2.1
  have h7 : sj_fi S (g 0) 7 = m 13 := hT.2.1.2.2
  have hRo := hT.2.2.2.2.1
  obtain ⟨h9, hn8⟩ := id hI.1
  have hN28 := hI.2.1.2
  have hv := sj_inv_oav hI
  have hi0 := hsv
  have he0 := hsw
  obtain ⟨i, hi, rfl⟩ := sj_isn_n h9 hn8 hsv
  have ei : sj_tn (nI i) = i := sj_tn_nI (by omega)
  obtain ⟨o, ho, rfl⟩ := sj_isn_n h9 hn8 hsw
  have eo : sj_tn (nI o) = o := sj_tn_nI (by omega)
  obtain ⟨w, hw, rfl⟩ := sj_wi_nI (n := 4) (by omega) hw9
  have ew : sj_tn (nI w) = w := sj_tn_nI (by omega)
  refine sj_aload_n C 1 rfl dX6_compare_0 rfl rfl ?_
  refine sj_iload_n C 2 rfl dX6_compare_1 rfl rfl ?_
  refine sj_iload_n C 3 rfl dX6_compare_2 rfl rfl ?_
  refine sj_callVd C 6 rfl dX6_compare_3 cv_X6_121 rfl (ct_X6_areThere _ hW hI _ _) rfl rfl rfl ⟨_, _, kd_x, rfl, rfl, by decide⟩ ⟨rfl, rfl⟩ ?_
  refine sj_if_ne C 19 9 rfl rfl dX6_compare_6 (fun c_6 => ?_) (fun c_6 => ?_)
  · refine sj_iload_n C 20 rfl dX6_compare_19 rfl rfl ?_
    refine sj_if_lt C 28 23 rfl rfl dX6_compare_20 (fun c_20 => ?_) (fun c_20 => ?_)
    · exact absurd c_20 (nI_pos (by omega))
    · refine sj_iload_n C 24 rfl dX6_compare_23 rfl rfl ?_
      refine sj_iconstv C (5) 25 rfl dX6_compare_24 rfl ?_
      refine sj_icmp_lt C 38 28 rfl rfl dX6_compare_25 (fun c_25 => ?_) (fun c_25 => ?_)
      · refine sj_aload_n C 39 rfl dX6_compare_38 rfl rfl ?_
        refine sj_getr C 42 rfl fd_X6_19 dX6_compare_39 kd_x rf_x_1 ?_
        refine sj_iload_n C 43 rfl dX6_compare_42 rfl rfl ?_
        refine sj_iload_n C 44 rfl dX6_compare_43 rfl rfl ?_
        refine sj_iload_n C 45 rfl dX6_compare_44 rfl rfl ?_
        refine sj_callVd C 48 rfl dX6_compare_45 cv_X6_219 rfl (ct_X4_comparison _ hT hI hi ho (w := w) (by omega)) rfl rfl rfl ⟨_, _, kd_t, rfl, rfl, by decide⟩ ⟨rfl, rfl⟩ ?_
        refine sj_iret C hR rfl rfl dX6_compare_48 ?_
        refine ⟨congrArg (fun z => some (Value.int z)) ?_, rfl⟩
        rw [ei, eo, ew]
      · exact absurd (show nI w < nI 5 from nI_lt (by omega) (by omega)) c_25
  · exact absurd c_6 (by rw [hi0, he0]; decide)
set_option maxRecDepth 100000 in
set_option maxHeartbeats 150000 in
theorem ct_X6_whyNot (l : Launch) {S : sj_St} {g : Nat → Nat} {m : Nat → Int32} {hs : Bool} {ms : Nat → Int32} {p q : Nat} {Q : Nat → Nat → Int32} {n : Nat} {B : Nat → Int32} (hW : sq_W S g m hs ms p q Q n B) (hI : sj_inv m) (hu : sj_uc m) (v e : Int32) (hsv : sj_isn m v = true) (hsw : sj_isn m e = true) (like : Bool) : sj_Ctr l mX6_whyNot [.ref (g 141), .int v, .int e, .int (sj_bi like)] S (sj_eq (some (.int (sj_why m (sj_tn v) (sj_tn e) like))) S) := by
  refine sj_start ([some (.ref (g 141)), some (.int v), some (.int e), some (.int (sj_bi like))]) (by decide +kernel) rfl rfl (fun X hX C hR => ?_)
  subst hX
  obtain ⟨⟨⟨kd_x, rf_x_0, rf_x_1, rf_x_2, rf_x_3⟩, hTl, hHl, hinj⟩, ⟨hT, h4, hT1⟩, hK3, ⟨hH1, hp6, hH2, hq6, hQ⟩, hX, hB⟩ := id hW
  have kd_t := hT.1.1
  have rf_t_4 := hT.1.2.2.2.2.1.1
  have rf_t_5 := hT.1.2.2.2.2.2.1.1
  have hol := hT.1.2.2.2.2.1.2
  have kd_o := hol.1
  have hset := hT.1.2.2.2.2.2.1.2
  have kd_se := hset.1
  have kd_tx := hX.1
  have kd_hi := hHl.1
  have h3 : sj_fi S (g 0) 3 = m 9 := hT.2.1.1
  have h6 : sj_fi S (g 0) 6 = m 12 := hT.2.1.2.1
  have h7 : sj_fi S (g 0) 7 = m 13 := hT.2.1.2.2
  have hRo := hT.2.2.2.2.1
  obtain ⟨h9, hn8⟩ := id hI.1
  have hN28 := hI.2.1.2
  have hv := sj_inv_oav hI
  have hi0 := hsv
  have he0 := hsw
  obtain ⟨i, hi, rfl⟩ := sj_isn_n h9 hn8 hsv
  have ei : sj_tn (nI i) = i := sj_tn_nI (by omega)
  obtain ⟨o, ho, rfl⟩ := sj_isn_n h9 hn8 hsw
  have eo : sj_tn (nI o) = o := sj_tn_nI (by omega)
  refine sj_aload_n C 1 rfl dX6_whyNot_0 rfl rfl ?_
  refine sj_iload_n C 2 rfl dX6_whyNot_1 rfl rfl ?_
  refine sj_iload_n C 3 rfl dX6_whyNot_2 rfl rfl ?_
  refine sj_callVd C 6 rfl dX6_whyNot_3 cv_X6_121 rfl (ct_X6_areThere _ hW hI _ _) rfl rfl rfl ⟨_, _, kd_x, rfl, rfl, by decide⟩ ⟨rfl, rfl⟩ ?_
  refine sj_if_ne C 19 9 rfl rfl dX6_whyNot_6 (fun c_6 => ?_) (fun c_6 => ?_)
  · refine sj_aload_n C 20 rfl dX6_whyNot_19 rfl rfl ?_
    refine sj_getr C 23 rfl fd_X6_19 dX6_whyNot_20 kd_x rf_x_1 ?_
    refine sj_iload_n C 24 rfl dX6_whyNot_23 rfl rfl ?_
    refine sj_iload_n C 25 rfl dX6_whyNot_24 rfl rfl ?_
    refine sj_iload_n C 26 rfl dX6_whyNot_25 rfl rfl ?_
    refine sj_callVd C 29 rfl dX6_whyNot_26 cv_X6_125 rfl (ct_X4_reasonAgainst _ hT hI hu hi ho like) rfl rfl rfl ⟨_, _, kd_t, rfl, rfl, by decide⟩ ⟨rfl, rfl⟩ ?_
    refine sj_iret C hR rfl rfl dX6_whyNot_29 ?_
    refine ⟨congrArg (fun z => some (Value.int z)) ?_, rfl⟩
    rw [ei, eo]
  · exact absurd c_6 (by rw [hi0, he0]; decide)
set_option maxRecDepth 100000 in
set_option maxHeartbeats 150000 in
theorem ct_X6_nearest (l : Launch) {S : sj_St} {g : Nat → Nat} {m : Nat → Int32} {hs : Bool} {ms : Nat → Int32} {p q : Nat} {Q : Nat → Nat → Int32} {n : Nat} {B : Nat → Int32} (hW : sq_W S g m hs ms p q Q n B) (hI : sj_inv m) (v : Int32) (hsv : sj_isn m v = true) : sj_Ctr l mX6_nearest [.ref (g 141), .int v] S (sj_eq (some (.int (sj_on (sj_mal m (sj_tn v) (sj_tn (m 9)))))) S) := by
  refine sj_start ([some (.ref (g 141)), some (.int v)]) (by decide +kernel) rfl rfl (fun X hX C hR => ?_)
  subst hX
  obtain ⟨⟨⟨kd_x, rf_x_0, rf_x_1, rf_x_2, rf_x_3⟩, hTl, hHl, hinj⟩, ⟨hT, h4, hT1⟩, hK3, ⟨hH1, hp6, hH2, hq6, hQ⟩, hX, hB⟩ := id hW
  have kd_t := hT.1.1
  have rf_t_4 := hT.1.2.2.2.2.1.1
  have rf_t_5 := hT.1.2.2.2.2.2.1.1
  have hol := hT.1.2.2.2.2.1.2
  have kd_o := hol.1
  have hset := hT.1.2.2.2.2.2.1.2
  have kd_se := hset.1
  have kd_tx := hX.1
  have kd_hi := hHl.1
  have h3 : sj_fi S (g 0) 3 = m 9 := hT.2.1.1
  have h6 : sj_fi S (g 0) 6 = m 12 := hT.2.1.2.1
  have h7 : sj_fi S (g 0) 7 = m 13 := hT.2.1.2.2
  have hRo := hT.2.2.2.2.1
  obtain ⟨h9, hn8⟩ := id hI.1
  have hN28 := hI.2.1.2
  have hv := sj_inv_oav hI
  have hi0 := hsv
  obtain ⟨i, hi, rfl⟩ := sj_isn_n h9 hn8 hsv
  have ei : sj_tn (nI i) = i := sj_tn_nI (by omega)
  refine sj_aload_n C 1 rfl dX6_nearest_0 rfl rfl ?_
  refine sj_iload_n C 2 rfl dX6_nearest_1 rfl rfl ?_
  refine sj_callVd C 5 rfl dX6_nearest_2 cv_X6_83 rfl (ct_X6_isThere _ hW hI _) rfl rfl rfl ⟨_, _, kd_x, rfl, rfl, by decide⟩ ⟨rfl, rfl⟩ ?_
  refine sj_if_ne C 18 8 rfl rfl dX6_nearest_5 (fun c_5 => ?_) (fun c_5 => ?_)
  · refine sj_aload_n C 19 rfl dX6_nearest_18 rfl rfl ?_
    refine sj_getr C 22 rfl fd_X6_19 dX6_nearest_19 kd_x rf_x_1 ?_
    refine sj_iload_n C 23 rfl dX6_nearest_22 rfl rfl ?_
    refine sj_callVd C 26 rfl dX6_nearest_23 cv_X6_234 rfl (ct_X4_mostAlike _ hT hI hi) rfl rfl rfl ⟨_, _, kd_t, rfl, rfl, by decide⟩ ⟨rfl, rfl⟩ ?_
    refine sj_iret C hR rfl rfl dX6_nearest_26 ?_
    refine ⟨congrArg (fun z => some (Value.int z)) ?_, rfl⟩
    rw [ei]
  · exact absurd c_5 (by rw [hi0]; decide)
set_option maxRecDepth 100000 in
set_option maxHeartbeats 150000 in
theorem ct_X6_toleranceFor (l : Launch) {S : sj_St} {g : Nat → Nat} {m : Nat → Int32} {hs : Bool} {ms : Nat → Int32} {p q : Nat} {Q : Nat → Nat → Int32} {n : Nat} {B : Nat → Int32} (hW : sq_W S g m hs ms p q Q n B) (hI : sj_inv m) (v e : Int32) (hsv : sj_isn m v = true) (hsw : sj_isn m e = true) (j : Int32) (hsj : sj_wi j 0 5 = true) : sj_Ctr l mX6_toleranceFor [.ref (g 141), .int v, .int e, .int j] S (sj_eq (some (.int (sj_tol m (sj_tn v) (sj_tn e) (sj_tn j)))) S) := by
  refine sj_start ([some (.ref (g 141)), some (.int v), some (.int e), some (.int j)]) (by decide +kernel) rfl rfl (fun X hX C hR => ?_)
  subst hX
  obtain ⟨⟨⟨kd_x, rf_x_0, rf_x_1, rf_x_2, rf_x_3⟩, hTl, hHl, hinj⟩, ⟨hT, h4, hT1⟩, hK3, ⟨hH1, hp6, hH2, hq6, hQ⟩, hX, hB⟩ := id hW
  have kd_t := hT.1.1
  have rf_t_4 := hT.1.2.2.2.2.1.1
  have rf_t_5 := hT.1.2.2.2.2.2.1.1
  have hol := hT.1.2.2.2.2.1.2
  have kd_o := hol.1
  have hset := hT.1.2.2.2.2.2.1.2
  have kd_se := hset.1
  have kd_tx := hX.1
  have kd_hi := hHl.1
  have h3 : sj_fi S (g 0) 3 = m 9 := hT.2.1.1
  have h6 : sj_fi S (g 0) 6 = m 12 := hT.2.1.2.1
  have h7 : sj_fi S (g 0) 7 = m 13 := hT.2.1.2.2
  have hRo := hT.2.2.2.2.1
  obtain ⟨h9, hn8⟩ := id hI.1
  have hN28 := hI.2.1.2
  have hv := sj_inv_oav hI
  have hi0 := hsv
  have he0 := hsw
  obtain ⟨i, hi, rfl⟩ := sj_isn_n h9 hn8 hsv
  have ei : sj_tn (nI i) = i := sj_tn_nI (by omega)
  obtain ⟨o, ho, rfl⟩ := sj_isn_n h9 hn8 hsw
  have eo : sj_tn (nI o) = o := sj_tn_nI (by omega)
  obtain ⟨j, hj, rfl⟩ := sj_wi_nI (n := 5) (by omega) hsj
  have ej : sj_tn (nI j) = j := sj_tn_nI (by omega)
  refine sj_aload_n C 1 rfl dX6_toleranceFor_0 rfl rfl ?_
  refine sj_iload_n C 2 rfl dX6_toleranceFor_1 rfl rfl ?_
  refine sj_iload_n C 3 rfl dX6_toleranceFor_2 rfl rfl ?_
  refine sj_callVd C 6 rfl dX6_toleranceFor_3 cv_X6_121 rfl (ct_X6_areThere _ hW hI _ _) rfl rfl rfl ⟨_, _, kd_x, rfl, rfl, by decide⟩ ⟨rfl, rfl⟩ ?_
  refine sj_if_ne C 19 9 rfl rfl dX6_toleranceFor_6 (fun c_6 => ?_) (fun c_6 => ?_)
  · refine sj_iload_n C 20 rfl dX6_toleranceFor_19 rfl rfl ?_
    refine sj_if_lt C 29 23 rfl rfl dX6_toleranceFor_20 (fun c_20 => ?_) (fun c_20 => ?_)
    · exact absurd c_20 (nI_pos (by omega))
    · refine sj_iload_n C 24 rfl dX6_toleranceFor_23 rfl rfl ?_
      refine sj_bipush C (6) 26 rfl dX6_toleranceFor_24 (by decide) ?_
      refine sj_icmp_lt C 39 29 rfl rfl dX6_toleranceFor_26 (fun c_26 => ?_) (fun c_26 => ?_)
      · refine sj_aload_n C 40 rfl dX6_toleranceFor_39 rfl rfl ?_
        refine sj_getr C 43 rfl fd_X6_19 dX6_toleranceFor_40 kd_x rf_x_1 ?_
        refine sj_iload_n C 44 rfl dX6_toleranceFor_43 rfl rfl ?_
        refine sj_iload_n C 45 rfl dX6_toleranceFor_44 rfl rfl ?_
        refine sj_iload_n C 46 rfl dX6_toleranceFor_45 rfl rfl ?_
        refine sj_callVd C 49 rfl dX6_toleranceFor_46 cv_X6_237 rfl (ct_X4_neededTolerance _ hT hI hi ho (j := j) (by omega)) rfl rfl rfl ⟨_, _, kd_t, rfl, rfl, by decide⟩ ⟨rfl, rfl⟩ ?_
        refine sj_iret C hR rfl rfl dX6_toleranceFor_49 ?_
        refine ⟨congrArg (fun z => some (Value.int z)) ?_, rfl⟩
        rw [ei, eo, ej]
      · exact absurd (show nI j < nI 6 from nI_lt (by omega) (by omega)) c_26
  · exact absurd c_6 (by rw [hi0, he0]; decide)
theorem sj_old_ge (m : Nat → Int32) (y : Int32) : ∀ n, -1 ≤ sj_old m y n
  | 0 => Int32.le_refl _
  | n + 1 => by
    have ih := sj_old_ge m y n
    unfold sj_old
    by_cases h : sj_old m y n < sj_age m y n
    · rw [if_pos h]
      exact Int32.le_trans ih (Int32.le_of_lt h)
    · rw [if_neg h]
      exact ih
theorem sj_old_ne {m : Nat → Int32} (hI : sj_inv m) {y : Int32} (hy : 0 ≤ y ∧ y ≤ 99) (h0 : 0 < sj_tn (m 9)) : ¬ sj_old m y (sj_tn (m 9)) = -1 := by
  obtain ⟨n, hn⟩ : ∃ n, sj_tn (m 9) = n + 1 := ⟨sj_tn (m 9) - 1, by omega⟩
  have ha := sj_age_ok (hI.2.2.2.1 n (by omega)).1 hy
  rw [hn]
  intro e
  unfold sj_old at e
  by_cases h : sj_old m y n < sj_age m y n
  · rw [if_pos h] at e
    rw [e] at ha
    exact absurd ha.1 (by decide)
  · rw [if_neg h] at e
    rw [e] at h
    exact h (Int32.lt_of_lt_of_le (by decide) ha.1)
set_option maxRecDepth 100000 in
set_option maxHeartbeats 150000 in
theorem ct_X6_ifPassed (l : Launch) {S : sj_St} {g : Nat → Nat} {m : Nat → Int32} {hs : Bool} {ms : Nat → Int32} {p q : Nat} {Q : Nat → Nat → Int32} {n : Nat} {B : Nat → Int32} (hW : sq_W S g m hs ms p q Q n B) (hI : sj_inv m) (v e : Int32) (hsv : sj_isn m v = true) (hsw : sj_isn m e = true) (y : Int32) (hy : sj_wi y 1 99 = true) : sj_Ctr l mX6_ifPassed [.ref (g 141), .int v, .int e, .int y] S (sj_eq (some (.int (sj_ifp m (sj_tn v) (sj_tn e) y))) S) := by
  refine sj_start ([some (.ref (g 141)), some (.int v), some (.int e), some (.int y)]) (by decide +kernel) rfl rfl (fun X hX C hR => ?_)
  subst hX
  obtain ⟨⟨⟨kd_x, rf_x_0, rf_x_1, rf_x_2, rf_x_3⟩, hTl, hHl, hinj⟩, ⟨hT, h4, hT1⟩, hK3, ⟨hH1, hp6, hH2, hq6, hQ⟩, hX, hB⟩ := id hW
  have kd_t := hT.1.1
  have rf_t_4 := hT.1.2.2.2.2.1.1
  have rf_t_5 := hT.1.2.2.2.2.2.1.1
  have hol := hT.1.2.2.2.2.1.2
  have kd_o := hol.1
  have hset := hT.1.2.2.2.2.2.1.2
  have kd_se := hset.1
  have kd_tx := hX.1
  have kd_hi := hHl.1
  have h3 : sj_fi S (g 0) 3 = m 9 := hT.2.1.1
  have h6 : sj_fi S (g 0) 6 = m 12 := hT.2.1.2.1
  have h7 : sj_fi S (g 0) 7 = m 13 := hT.2.1.2.2
  have hRo := hT.2.2.2.2.1
  obtain ⟨h9, hn8⟩ := id hI.1
  have hN28 := hI.2.1.2
  have hv := sj_inv_oav hI
  have hi0 := hsv
  have he0 := hsw
  obtain ⟨i, hi, rfl⟩ := sj_isn_n h9 hn8 hsv
  have ei : sj_tn (nI i) = i := sj_tn_nI (by omega)
  obtain ⟨o, ho, rfl⟩ := sj_isn_n h9 hn8 hsw
  have eo : sj_tn (nI o) = o := sj_tn_nI (by omega)
  obtain ⟨hy1, hy2⟩ := sj_wi_iff.mp hy
  have hy9 : 0 ≤ y ∧ y ≤ 99 := ⟨Int32.le_trans (by decide) hy1, hy2⟩
  refine sj_aload_n C 1 rfl dX6_ifPassed_0 rfl rfl ?_
  refine sj_iload_n C 2 rfl dX6_ifPassed_1 rfl rfl ?_
  refine sj_iload_n C 3 rfl dX6_ifPassed_2 rfl rfl ?_
  refine sj_callVd C 6 rfl dX6_ifPassed_3 cv_X6_121 rfl (ct_X6_areThere _ hW hI _ _) rfl rfl rfl ⟨_, _, kd_x, rfl, rfl, by decide⟩ ⟨rfl, rfl⟩ ?_
  refine sj_if_ne C 19 9 rfl rfl dX6_ifPassed_6 (fun c_6 => ?_) (fun c_6 => ?_)
  · refine sj_iload_n C 20 rfl dX6_ifPassed_19 rfl rfl ?_
    refine sj_iconstv C (1) 21 rfl dX6_ifPassed_20 rfl ?_
    refine sj_icmp_lt C 30 24 rfl rfl dX6_ifPassed_21 (fun c_21 => ?_) (fun c_21 => ?_)
    · exact absurd hy1 (Int32.not_le.mpr c_21)
    · refine sj_iload_n C 25 rfl dX6_ifPassed_24 rfl rfl ?_
      refine sj_bipush C (99) 27 rfl dX6_ifPassed_25 (by decide) ?_
      refine sj_icmp_le C 40 30 rfl rfl dX6_ifPassed_27 (fun c_27 => ?_) (fun c_27 => ?_)
      · refine sj_aload_n C 41 rfl dX6_ifPassed_40 rfl rfl ?_
        refine sj_getr C 44 rfl fd_X6_19 dX6_ifPassed_41 kd_x rf_x_1 ?_
        refine sj_iload_n C 45 rfl dX6_ifPassed_44 rfl rfl ?_
        refine sj_iload_n C 46 rfl dX6_ifPassed_45 rfl rfl ?_
        refine sj_iload_n C 47 rfl dX6_ifPassed_46 rfl rfl ?_
        refine sj_callVd C 50 rfl dX6_ifPassed_47 cv_X6_240 rfl (ct_X4_likeness _ hT hI hi ho hy9) rfl rfl rfl ⟨_, _, kd_t, rfl, rfl, by decide⟩ ⟨rfl, rfl⟩ ?_
        refine sj_iret C hR rfl rfl dX6_ifPassed_50 ?_
        refine ⟨congrArg (fun z => some (Value.int z)) ?_, rfl⟩
        rw [ei, eo]
        unfold sj_ifp
        rw [if_neg (sj_old_ne hI hy9 (by omega))]
      · exact absurd hy2 c_27
  · exact absurd c_6 (by rw [hi0, he0]; decide)
set_option maxRecDepth 100000 in
set_option maxHeartbeats 150000 in
theorem ct_X6_oath (l : Launch) {S : sj_St} {g : Nat → Nat} {m : Nat → Int32} {hs : Bool} {ms : Nat → Int32} {p q : Nat} {Q : Nat → Nat → Int32} {n : Nat} {B : Nat → Int32} (hW : sq_W S g m hs ms p q Q n B) (hI : sj_inv m) (k w : Int32) (hsk : ¬ k < 0) (hsw : sj_wi w 0 3 = true) : sj_Ctr l mX6_oath [.ref (g 141), .int k, .int w] S (sj_eq (some (.int (sj_tlo m (sj_tn k) (sj_tn w)))) S) := by
  refine sj_start ([some (.ref (g 141)), some (.int k), some (.int w)]) (by decide +kernel) rfl rfl (fun X hX C hR => ?_)
  subst hX
  obtain ⟨⟨⟨kd_x, rf_x_0, rf_x_1, rf_x_2, rf_x_3⟩, hTl, hHl, hinj⟩, ⟨hT, h4, hT1⟩, hK3, ⟨hH1, hp6, hH2, hq6, hQ⟩, hX, hB⟩ := id hW
  have kd_t := hT.1.1
  have rf_t_4 := hT.1.2.2.2.2.1.1
  have rf_t_5 := hT.1.2.2.2.2.2.1.1
  have hol := hT.1.2.2.2.2.1.2
  have kd_o := hol.1
  have hset := hT.1.2.2.2.2.2.1.2
  have kd_se := hset.1
  have kd_tx := hX.1
  have kd_hi := hHl.1
  have h3 : sj_fi S (g 0) 3 = m 9 := hT.2.1.1
  have h6 : sj_fi S (g 0) 6 = m 12 := hT.2.1.2.1
  have h7 : sj_fi S (g 0) 7 = m 13 := hT.2.1.2.2
  have hRo := hT.2.2.2.2.1
  obtain ⟨h9, hn8⟩ := id hI.1
  have hN28 := hI.2.1.2
  have hv := sj_inv_oav hI
  have hsk0 := hsk
  obtain ⟨k, hk, rfl⟩ := nI_of hsk
  have ek : sj_tn (nI k) = k := sj_tn_nI hk
  obtain ⟨w, hw, rfl⟩ := sj_wi_nI (n := 3) (by omega) hsw
  have ew : sj_tn (nI w) = w := sj_tn_nI (by omega)
  have hN : sj_fi S (sq_D g 0 5) 0 = nI (sj_tn (m 10)) := hRo.1.trans hI.2.1.1
  refine sj_iload_n C 1 rfl dX6_oath_0 rfl rfl ?_
  refine sj_if_lt C 13 4 rfl rfl dX6_oath_1 (fun c_1 => ?_) (fun c_1 => ?_)
  · exact absurd c_1 hsk0
  · refine sj_iload_n C 5 rfl dX6_oath_4 rfl rfl ?_
    refine sj_if_lt C 13 8 rfl rfl dX6_oath_5 (fun c_5 => ?_) (fun c_5 => ?_)
    · exact absurd c_5 (nI_pos (by omega))
    · refine sj_iload_n C 9 rfl dX6_oath_8 rfl rfl ?_
      refine sj_iconstv C (4) 10 rfl dX6_oath_9 rfl ?_
      refine sj_icmp_lt C 23 13 rfl rfl dX6_oath_10 (fun c_10 => ?_) (fun c_10 => ?_)
      · refine sj_iload_n C 24 rfl dX6_oath_23 rfl rfl ?_
        refine sj_aload_n C 25 rfl dX6_oath_24 rfl rfl ?_
        refine sj_getr C 28 rfl fd_X6_19 dX6_oath_25 kd_x rf_x_1 ?_
        refine sj_getr C 31 rfl fd_X6_131 dX6_oath_28 kd_t rf_t_4 ?_
        refine sj_getI C 34 rfl fd_X6_225 dX6_oath_31 kd_o ?_
        rw [hN]
        refine sj_icmp_ge C 52 37 rfl rfl dX6_oath_34 (fun c_34 => ?_) (fun c_34 => ?_)
        · refine sj_iconstv C (-1) 53 rfl dX6_oath_52 rfl ?_
          refine sj_iret C hR rfl rfl dX6_oath_53 ?_
          refine ⟨congrArg (fun z => some (Value.int z)) ?_, rfl⟩
          rw [ek, ew]
          unfold sj_tlo
          rw [if_pos (Nat.not_lt.mp fun h8 => nI_ge h8 (by omega) c_34)]
        · have hlt : k < sj_tn (m 10) := Nat.not_le.mp fun h8 => c_34 (nI_le h8 hk)
          refine sj_aload_n C 38 rfl dX6_oath_37 rfl rfl ?_
          refine sj_getr C 41 rfl fd_X6_19 dX6_oath_38 kd_x rf_x_1 ?_
          refine sj_getr C 44 rfl fd_X6_131 dX6_oath_41 kd_t rf_t_4 ?_
          refine sj_iload_n C 45 rfl dX6_oath_44 rfl rfl ?_
          refine sj_iload_n C 46 rfl dX6_oath_45 rfl rfl ?_
          refine sj_callVd C 49 rfl dX6_oath_46 cv_X6_226 rfl (sq_c_numberOf _ hol hv hRo (k := k) (q := w) hlt (by omega)) rfl rfl rfl ⟨_, _, kd_o, rfl, rfl, by decide⟩ ⟨rfl, rfl⟩ ?_
          refine sj_goto C 53 rfl dX6_oath_49 ?_
          refine sj_iret C hR rfl rfl dX6_oath_53 ?_
          refine ⟨congrArg (fun z => some (Value.int z)) ?_, rfl⟩
          rw [ek, ew]
      · exact absurd (show nI w < nI 4 from nI_lt (by omega) (by omega)) c_10
set_option maxRecDepth 100000 in
set_option maxHeartbeats 150000 in
theorem ct_X6_count (l : Launch) {S : sj_St} {g : Nat → Nat} {m : Nat → Int32} {hs : Bool} {ms : Nat → Int32} {p q : Nat} {Q : Nat → Nat → Int32} {n : Nat} {B : Nat → Int32} (hW : sq_W S g m hs ms p q Q n B) (hI : sj_inv m) (w : Int32) (hsw : sj_wi w 0 17 = true) : sj_Ctr l mX6_count [.ref (g 141), .int w] S (sj_eq (some (.int (sj_tc m (nI q) (sj_tn w)))) S) := by
  refine sj_start ([some (.ref (g 141)), some (.int w)]) (by decide +kernel) rfl rfl (fun X hX C hR => ?_)
  subst hX
  obtain ⟨⟨⟨kd_x, rf_x_0, rf_x_1, rf_x_2, rf_x_3⟩, hTl, hHl, hinj⟩, ⟨hT, h4, hT1⟩, hK3, ⟨hH1, hp6, hH2, hq6, hQ⟩, hX, hB⟩ := id hW
  have kd_t := hT.1.1
  have rf_t_4 := hT.1.2.2.2.2.1.1
  have rf_t_5 := hT.1.2.2.2.2.2.1.1
  have hol := hT.1.2.2.2.2.1.2
  have kd_o := hol.1
  have hset := hT.1.2.2.2.2.2.1.2
  have kd_se := hset.1
  have kd_tx := hX.1
  have kd_hi := hHl.1
  have h3 : sj_fi S (g 0) 3 = m 9 := hT.2.1.1
  have h6 : sj_fi S (g 0) 6 = m 12 := hT.2.1.2.1
  have h7 : sj_fi S (g 0) 7 = m 13 := hT.2.1.2.2
  have hRo := hT.2.2.2.2.1
  obtain ⟨h9, hn8⟩ := id hI.1
  have hN28 := hI.2.1.2
  have hv := sj_inv_oav hI
  obtain ⟨w, hw, rfl⟩ := sj_wi_nI (n := 17) (by omega) hsw
  have ew : sj_tn (nI w) = w := sj_tn_nI (by omega)
  refine sj_iload_n C 1 rfl dX6_count_0 rfl rfl ?_
  refine sj_if_lt C 10 4 rfl rfl dX6_count_1 (fun c_1 => ?_) (fun c_1 => ?_)
  · exact absurd c_1 (nI_pos (by omega))
  · refine sj_iload_n C 5 rfl dX6_count_4 rfl rfl ?_
    refine sj_bipush C (18) 7 rfl dX6_count_5 (by decide) ?_
    refine sj_icmp_lt C 20 10 rfl rfl dX6_count_7 (fun c_7 => ?_) (fun c_7 => ?_)
    · refine sj_aload_n C 21 rfl dX6_count_20 rfl rfl ?_
      refine sj_iload_n C 22 rfl dX6_count_21 rfl rfl ?_
      refine sj_callVd C 25 rfl dX6_count_22 cv_X6_231 rfl (ct_X6_toldCount _ hW hI (w := w) (by omega)) rfl rfl rfl ⟨_, _, kd_x, rfl, rfl, by decide⟩ ⟨rfl, rfl⟩ ?_
      refine sj_iret C hR rfl rfl dX6_count_25 ?_
      refine ⟨congrArg (fun z => some (Value.int z)) ?_, rfl⟩
      rw [ew]
    · exact absurd (show nI w < nI 18 from nI_lt (by omega) (by omega)) c_7
theorem sq_w1n {w : Nat} (hw : w ≤ 1) (h : ¬ nI w = 0) : w = 1 := by
  have h8 : w ≠ 0 := fun e => h (by rw [e]; rfl)
  omega
theorem sq_w1e {w : Nat} (hw : w ≤ 1) (h : ¬ nI w = 0) : nI w = 1 := by
  rw [sq_w1n hw h]
  rfl
set_option maxRecDepth 100000 in
set_option maxHeartbeats 150000 in
theorem ct_X6_handShare (l : Launch) {S : sj_St} {g : Nat → Nat} {m : Nat → Int32} {hs : Bool} {ms : Nat → Int32} {p q : Nat} {Q : Nat → Nat → Int32} {n : Nat} {B : Nat → Int32} (hW : sq_W S g m hs ms p q Q n B) (hI : sj_inv m) : sj_Ctr l mX6_handShare [.ref (g 141)] S (sj_eq (some (.double (sj_shr m))) S) := by
  refine sj_start ([some (.ref (g 141))]) (by decide +kernel) rfl rfl (fun X hX C hR => ?_)
  subst hX
  obtain ⟨⟨⟨kd_x, rf_x_0, rf_x_1, rf_x_2, rf_x_3⟩, hTl, hHl, hinj⟩, ⟨hT, h4, hT1⟩, hK3, ⟨hH1, hp6, hH2, hq6, hQ⟩, hX, hB⟩ := id hW
  have kd_t := hT.1.1
  have rf_t_4 := hT.1.2.2.2.2.1.1
  have rf_t_5 := hT.1.2.2.2.2.2.1.1
  have hol := hT.1.2.2.2.2.1.2
  have kd_o := hol.1
  have hset := hT.1.2.2.2.2.2.1.2
  have kd_se := hset.1
  have kd_tx := hX.1
  have kd_hi := hHl.1
  have h3 : sj_fi S (g 0) 3 = m 9 := hT.2.1.1
  have h6 : sj_fi S (g 0) 6 = m 12 := hT.2.1.2.1
  have h7 : sj_fi S (g 0) 7 = m 13 := hT.2.1.2.2
  have hRo := hT.2.2.2.2.1
  obtain ⟨h9, hn8⟩ := id hI.1
  have hN28 := hI.2.1.2
  have hv := sj_inv_oav hI
  refine sj_aload_n C 1 rfl dX6_handShare_0 rfl rfl ?_
  refine sj_getr C 4 rfl fd_X6_19 dX6_handShare_1 kd_x rf_x_1 ?_
  refine sj_callVd C 7 rfl dX6_handShare_4 cv_X6_243 rfl (ct_X4_shareOfHands _ hT hI) rfl rfl rfl ⟨_, _, kd_t, rfl, rfl, by decide⟩ ⟨rfl, rfl⟩ ?_
  refine sj_dret C hR rfl rfl dX6_handShare_7 ?_
  exact ⟨rfl, rfl⟩
