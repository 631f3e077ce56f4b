/-! THE CLASS ITSELF: its works -/
def sq_P0 (g : Nat → Nat) : Nat → Prop := sq_P (sq_D g 0)
/-- why two sheets of a part cannot be sworn -/
def sq_sp (m : Nat → Int32) (v e : Int32) (like : Bool) : Int32 := if (sj_isn m v && sj_isn m e) = false then 7 else sj_why m (sj_tn v) (sj_tn e) like
def sq_sm2 (m : Nat → Int32) (v e : Int32) (like : Bool) : Nat → Int32 := if sq_sp m v e like = 0 then sj_sw m (sj_tn v) (sj_tn e) like else m
theorem sq_fr_ad {S : sj_St} {g : Nat → Nat} {m : Nat → Int32} {i e : Nat} {like : Bool} : sq_fr (sq_P0 g) S (sq_ad S g m i e like) := sq_fr_os _ (sq_Pi (sq_D g 0) (i := 5)) (sq_Pi (sq_D g 0) (i := 5 + 2)) (sq_Pi (sq_D g 0) (i := 5 + 4)) (sq_Pi (sq_D g 0) (i := 5 + 6)) (sq_Pi (sq_D g 0) (i := 5 + 8))
set_option maxRecDepth 100000 in
set_option maxHeartbeats 250000 in
theorem ct_X6_swearPart (l : Launch) {S : sj_St} {g : Nat → Nat} {m : Nat → Int32} {hs : Bool} {ms : Nat → Int32} {p q : Nat} {Q : Nat → Nat → Int32} {n : Nat} {B : Nat → Int32} (hW : sq_W S g m hs ms p q Q n B) (hI : sj_inv m) (hu : sj_uc m) (v e : Int32) (like : Bool) : sj_Ctr l mX6_swearPart [.ref (g 141), .int v, .int e, .int (sj_bi like)] S (fun r T => r = some (.int (sq_sp m v e like)) ∧ sq_fr (sq_P0 g) S T ∧ sq_W T g (sq_sm2 m v e like) hs ms p q Q n B) := by
  refine sj_start ([some (.ref (g 141)), some (.int v), some (.int e), some (.int (sj_bi like)), none]) (by decide +kernel) rfl rfl (fun X hX C hR => ?_)
  subst hX
  obtain ⟨⟨⟨kd_x, rf_x_0, rf_x_1, rf_x_2, rf_x_3⟩, hTl, hHl, hinj⟩, ⟨hT, h4, hT1⟩, hK3, ⟨hH1, hp6, hH2, hq6, hQ⟩, hX, hB⟩ := id hW
  have kd_t := hT.1.1
  have rf_t_4 := hT.1.2.2.2.2.1.1
  have rf_t_5 := hT.1.2.2.2.2.2.1.1
  have hol := hT.1.2.2.2.2.1.2
  have kd_o := hol.1
  have hset := hT.1.2.2.2.2.2.1.2
  have kd_se := hset.1
  have kd_tx := hX.1
  have kd_hi := hHl.1
  have h3 : sj_fi S (g 0) 3 = m 9 := hT.2.1.1
  have h6 : sj_fi S (g 0) 6 = m 12 := hT.2.1.2.1
  have h7 : sj_fi S (g 0) 7 = m 13 := hT.2.1.2.2
  have hRo := hT.2.2.2.2.1
  obtain ⟨h9, hn8⟩ := id hI.1
  have hN28 := hI.2.1.2
  have hv := sj_inv_oav hI
  refine sj_aload_n C 1 rfl dX6_swearPart_0 rfl rfl ?_
  refine sj_iload_n C 2 rfl dX6_swearPart_1 rfl rfl ?_
  refine sj_iload_n C 3 rfl dX6_swearPart_2 rfl rfl ?_
  refine sj_callVd C 6 rfl dX6_swearPart_3 cv_X6_121 rfl (ct_X6_areThere _ hW hI _ _) rfl rfl rfl ⟨_, _, kd_x, rfl, rfl, by decide⟩ ⟨rfl, rfl⟩ ?_
  refine sj_if_ne C 12 9 rfl rfl dX6_swearPart_6 (fun c_6 => ?_) (fun c_6 => ?_)
  · have hb := sj_bin.mp c_6
    obtain ⟨hsv, hsw⟩ := (Bool.and_eq_true _ _).mp hb
    obtain ⟨i, hi, rfl⟩ := sj_isn_n h9 hn8 hsv
    obtain ⟨o, ho, rfl⟩ := sj_isn_n h9 hn8 hsw
    have ei : sj_tn (nI i) = i := sj_tn_nI (by omega)
    have eo : sj_tn (nI o) = o := sj_tn_nI (by omega)
    have esp : sq_sp m (nI i) (nI o) like = sj_why m i o like := by
      unfold sq_sp
      rw [hb, if_neg (by decide), ei, eo]
    refine sj_aload_n C 13 rfl dX6_swearPart_12 rfl rfl ?_
    refine sj_getr C 16 rfl fd_X6_19 dX6_swearPart_13 kd_x rf_x_1 ?_
    refine sj_iload_n C 17 rfl dX6_swearPart_16 rfl rfl ?_
    refine sj_iload_n C 18 rfl dX6_swearPart_17 rfl rfl ?_
    refine sj_iload_n C 19 rfl dX6_swearPart_18 rfl rfl ?_
    refine sj_callVd C 22 rfl dX6_swearPart_19 cv_X6_125 rfl (ct_X4_reasonAgainst _ hT hI hu hi ho like) rfl rfl rfl ⟨_, _, kd_t, rfl, rfl, by decide⟩ ⟨rfl, rfl⟩ ?_
    refine sj_istore_4 C 24 rfl dX6_swearPart_22 rfl rfl ?_
    refine sj_iload C 26 rfl dX6_swearPart_24 rfl ?_
    refine sj_if_ne C 42 29 rfl rfl dX6_swearPart_26 (fun c_26 => ?_) (fun c_26 => ?_)
    · refine sj_iload C 44 rfl dX6_swearPart_42 rfl ?_
      refine sj_iret C hR rfl rfl dX6_swearPart_44 ?_
      unfold sq_sm2
      rw [esp, if_neg c_26]
      exact ⟨rfl, sq_fr_id, hW⟩
    · have hIM := sj_inv_sw hI hi ho c_26
      have h28 := sj_sw_28 hI hi ho c_26
      refine sj_aload_n C 30 rfl dX6_swearPart_29 rfl rfl ?_
      refine sj_getr C 33 rfl fd_X6_19 dX6_swearPart_30 kd_x rf_x_1 ?_
      refine sj_getr C 36 rfl fd_X6_131 dX6_swearPart_33 kd_t rf_t_4 ?_
      refine sj_iload_n C 37 rfl dX6_swearPart_36 rfl rfl ?_
      refine sj_iload_n C 38 rfl dX6_swearPart_37 rfl rfl ?_
      refine sj_iload_n C 39 rfl dX6_swearPart_38 rfl rfl ?_
      refine sj_callVv C 42 rfl dX6_swearPart_39 cv_X6_135 rfl (sq_c_ad _ hW hI i o like h28) rfl rfl rfl ⟨_, _, kd_o, rfl, rfl, by decide⟩ ⟨rfl, rfl⟩ ?_
      refine sj_iload C 44 rfl dX6_swearPart_42 rfl ?_
      refine sj_iret C hR rfl rfl dX6_swearPart_44 ?_
      unfold sq_sm2
      rw [esp, if_pos c_26, ei, eo]
      exact ⟨rfl, sq_fr_ad, (sq_W_add hW hI h28 hIM).1⟩
  · refine sj_bipush C (7) 11 rfl dX6_swearPart_9 (by decide) ?_
    refine sj_iret C hR rfl rfl dX6_swearPart_11 ?_
    have h7 : sq_sp m v e like = 7 := if_pos (sj_bi0.mp c_6)
    unfold sq_sm2
    rw [h7, if_neg (by decide)]
    exact ⟨rfl, sq_fr_id, hW⟩
theorem sq_wnp_g (m : Nat → Int32) (sg v e : Int32) (h1 : ¬ sg = 121) (h2 : ¬ sg = 100) : sj_wnp m sg v e = sq_sp m v e (decide (sg = 108)) := by
  unfold sj_wnp sq_sp
  rw [if_neg h1, if_neg h2]
  cases ha : sj_isn m v
  · rw [if_pos (Or.inl rfl), Bool.false_and, if_pos rfl]
  · cases hb : sj_isn m e
    · rw [if_pos (Or.inr ⟨h2, rfl⟩), Bool.and_false, if_pos rfl]
    · rw [if_neg (fun h => h.elim (fun h => absurd h (by decide)) (fun h => absurd h.2 (by decide))), Bool.and_true, if_neg (by decide)]
theorem sq_wnp_l (m : Nat → Int32) (v e : Int32) : sj_wnp m 108 v e = sq_sp m v e true := sq_wnp_g m 108 v e (by decide) (by decide)
theorem sq_wnp_u (m : Nat → Int32) (v e : Int32) : sj_wnp m 117 v e = sq_sp m v e false := sq_wnp_g m 117 v e (by decide) (by decide)
theorem sq_dpt_l (m : Nat → Int32) (v e : Int32) : (sj_dpt m 108 v e).1 = sj_sw m (sj_tn v) (sj_tn e) true := congrArg Prod.fst ((if_neg (by decide)).trans (if_neg (by decide)))
theorem sq_dpt_u (m : Nat → Int32) (v e : Int32) : (sj_dpt m 117 v e).1 = sj_sw m (sj_tn v) (sj_tn e) false := congrArg Prod.fst ((if_neg (by decide)).trans (if_neg (by decide)))
set_option maxRecDepth 100000 in
set_option maxHeartbeats 300000 in
theorem ct_X6_doPart (l : Launch) {S : sj_St} {g : Nat → Nat} {m : Nat → Int32} {hs : Bool} {ms : Nat → Int32} {p q : Nat} {Q : Nat → Nat → Int32} {n : Nat} {B : Nat → Int32} (hW : sq_W S g m hs ms p q Q n B) (hI : sj_inv m) (hu : sj_uc m) {k : Nat} (hk60 : k < 60) {sg f1 f2 : Int32} (hk0 : sj_ia S (sq_E g 6) k = sg) (hk1 : sj_ia S (sq_E g 8) k = f1) (hk2 : sj_ia S (sq_E g 10) k = f2) (hsg : sq_sg sg) (hy : sg = 121 → 0 ≤ f1 ∧ f1 ≤ 99) : sj_Ctr l mX6_doPart [.ref (g 141), .int (nI k)] S (fun r T => r = some (.int (sj_bi (decide ((sj_wnp m sg f1 f2) = 0)))) ∧ sq_fr (sq_P0 g) S T ∧ sq_W T g (if (sj_wnp m sg f1 f2) = 0 then (sj_dpt m sg f1 f2).1 else upd (upd m 12 (nI k)) 13 (sj_wnp m sg f1 f2)) hs ms p q Q n B) := by
  refine sj_start ([some (.ref (g 141)), some (.int (nI k)), none, none, none]) (by decide +kernel) rfl rfl (fun X hX C hR => ?_)
  subst hX
  obtain ⟨⟨⟨kd_x, rf_x_0, rf_x_1, rf_x_2, rf_x_3⟩, hTl, hHl, hinj⟩, ⟨hT, h4, hT1⟩, hK3, ⟨hH1, hp6, hH2, hq6, hQ⟩, hX, hB⟩ := id hW
  have kd_t := hT.1.1
  have rf_t_4 := hT.1.2.2.2.2.1.1
  have rf_t_5 := hT.1.2.2.2.2.2.1.1
  have hol := hT.1.2.2.2.2.1.2
  have kd_o := hol.1
  have hset := hT.1.2.2.2.2.2.1.2
  have kd_se := hset.1
  have kd_tx := hX.1
  have kd_hi := hHl.1
  have h3 : sj_fi S (g 0) 3 = m 9 := hT.2.1.1
  have h6 : sj_fi S (g 0) 6 = m 12 := hT.2.1.2.1
  have h7 : sj_fi S (g 0) 7 = m 13 := hT.2.1.2.2
  have hRo := hT.2.2.2.2.1
  obtain ⟨h9, hn8⟩ := id hI.1
  have hN28 := hI.2.1.2
  have hv := sj_inv_oav hI
  have kd_rk := hX.2.2.2.1.2.1
  have kd_rfi := hX.2.2.2.2.1.2.1
  have kd_rse := hX.2.2.2.2.2.1.2.1
  have rf_tx_6 := hX.2.2.2.1.1
  have rf_tx_7 := hX.2.2.2.2.1.1
  have rf_tx_8 := hX.2.2.2.2.2.1.1
  refine sj_aload_n C 1 rfl dX6_doPart_0 rfl rfl ?_
  refine sj_getr C 4 rfl fd_X6_10 dX6_doPart_1 kd_x rf_x_0 ?_
  refine sj_getr C 7 rfl fd_X6_269 dX6_doPart_4 kd_tx rf_tx_7 ?_
  refine sj_iload_n C 8 rfl dX6_doPart_7 rfl rfl ?_
  refine sj_callVd C 11 rfl dX6_doPart_8 cv_X6_112 rfl (ct_X2_at _ (hX.2.2.2.2.1.2) _) rfl rfl rfl ⟨_, _, kd_rfi, rfl, rfl, by decide⟩ ⟨rfl, rfl⟩ ?_
  rw [sj_at_nI (j := k) _ hk60 (by omega), hk1]
  refine sj_istore_n_2 C 12 rfl dX6_doPart_11 rfl rfl ?_
  refine sj_aload_n C 13 rfl dX6_doPart_12 rfl rfl ?_
  refine sj_getr C 16 rfl fd_X6_10 dX6_doPart_13 kd_x rf_x_0 ?_
  refine sj_getr C 19 rfl fd_X6_272 dX6_doPart_16 kd_tx rf_tx_8 ?_
  refine sj_iload_n C 20 rfl dX6_doPart_19 rfl rfl ?_
  refine sj_callVd C 23 rfl dX6_doPart_20 cv_X6_112 rfl (ct_X2_at _ (hX.2.2.2.2.2.1.2) _) rfl rfl rfl ⟨_, _, kd_rse, rfl, rfl, by decide⟩ ⟨rfl, rfl⟩ ?_
  rw [sj_at_nI (j := k) _ hk60 (by omega), hk2]
  refine sj_istore_n_3 C 24 rfl dX6_doPart_23 rfl rfl ?_
  refine sj_iconstv C (0) 25 rfl dX6_doPart_24 rfl ?_
  refine sj_istore_4 C 27 rfl dX6_doPart_25 rfl rfl ?_
  refine sj_aload_n C 28 rfl dX6_doPart_27 rfl rfl ?_
  refine sj_getr C 31 rfl fd_X6_10 dX6_doPart_28 kd_x rf_x_0 ?_
  refine sj_getr C 34 rfl fd_X6_275 dX6_doPart_31 kd_tx rf_tx_6 ?_
  refine sj_iload_n C 35 rfl dX6_doPart_34 rfl rfl ?_
  refine sj_callVd C 38 rfl dX6_doPart_35 cv_X6_112 rfl (ct_X2_at _ (hX.2.2.2.1.2) _) rfl rfl rfl ⟨_, _, kd_rk, rfl, rfl, by decide⟩ ⟨rfl, rfl⟩ ?_
  rw [sj_at_nI (j := k) _ hk60 (by omega), hk0]
  rcases hsg with rfl | rfl | rfl | rfl
  · refine sj_lookup C 117 dX6_doPart_38 (by decide) rfl rfl ?_
    refine sj_aload_n C 118 rfl dX6_doPart_117 rfl rfl ?_
    refine sj_iload_n C 119 rfl dX6_doPart_118 rfl rfl ?_
    refine sj_iload_n C 120 rfl dX6_doPart_119 rfl rfl ?_
    refine sj_iconstv C (1) 121 rfl dX6_doPart_120 rfl ?_
    rw [show (1 : Int32) = sj_bi true from rfl]
    refine sj_callVp C 124 rfl dX6_doPart_121 cv_X6_278 rfl (ct_X6_swearPart _ hW hI hu f1 f2 true) rfl rfl rfl ⟨_, _, kd_x, rfl, rfl, by decide⟩ ⟨rfl, rfl⟩ (fun v_121 S_121 hp_121 => ?_)
    obtain ⟨rfl, hf2, hW2⟩ := hp_121
    have kd_x := hW2.1.1.1
    have rf_x_1 := hW2.1.1.2.2.1
    have kd_t := hW2.2.1.1.1.1
    refine sj_istore_4 C 126 rfl dX6_doPart_124 rfl rfl ?_
    refine sj_goto C 138 rfl dX6_doPart_126 ?_
    refine sj_iload C 140 rfl dX6_doPart_138 rfl ?_
    refine sj_if_eq C 160 143 rfl rfl dX6_doPart_140 (fun c_140 => ?_) (fun c_140 => ?_)
    · refine sj_iload C 162 rfl dX6_doPart_160 rfl ?_
      refine sj_if_ne C 169 165 rfl rfl dX6_doPart_162 (fun c_162 => ?_) (fun c_162 => ?_)
      · exact absurd c_140 c_162
      · refine sj_iconstv C (1) 166 rfl dX6_doPart_165 rfl ?_
        refine sj_goto C 170 rfl dX6_doPart_166 ?_
        refine sj_zret C hR rfl rfl rfl dX6_doPart_170 ?_
        have e0 : sj_wnp m 108 f1 f2 = sq_sp m f1 f2 true := sq_wnp_l m f1 f2
        rw [e0, if_pos c_140, c_140]
        rw [show sq_sm2 m f1 f2 true = (sj_dpt m 108 f1 f2).1 from (if_pos c_140).trans (sq_dpt_l m f1 f2).symm] at hW2
        exact ⟨rfl, hf2, hW2⟩
    · refine sj_aload_n C 144 rfl dX6_doPart_143 rfl rfl ?_
      refine sj_getr C 147 rfl fd_X6_19 dX6_doPart_144 kd_x rf_x_1 ?_
      refine sj_iload_n C 148 rfl dX6_doPart_147 rfl rfl ?_
      refine sj_putI C 151 rfl fd_X6_181 dX6_doPart_148 rfl rfl kd_t ?_
      refine sj_aload_n C 152 rfl dX6_doPart_151 rfl rfl ?_
      refine sj_getr C 155 rfl fd_X6_19 dX6_doPart_152 kd_x rf_x_1 ?_
      refine sj_iload C 157 rfl dX6_doPart_155 rfl ?_
      refine sj_putI C 160 rfl fd_X6_184 dX6_doPart_157 rfl rfl kd_t ?_
      refine sj_iload C 162 rfl dX6_doPart_160 rfl ?_
      refine sj_if_ne C 169 165 rfl rfl dX6_doPart_162 (fun c_162 => ?_) (fun c_162 => ?_)
      · refine sj_iconstv C (0) 170 rfl dX6_doPart_169 rfl ?_
        refine sj_zret C hR rfl rfl rfl dX6_doPart_170 ?_
        have e0 : sj_wnp m 108 f1 f2 = sq_sp m f1 f2 true := sq_wnp_l m f1 f2
        rw [e0, if_neg c_140, decide_eq_false c_140]
        rw [show sq_sm2 m f1 f2 true = m from if_neg c_140] at hW2
        refine ⟨rfl, sq_fr_tr hf2 (sq_fr_tr (sq_fr_fi 6 _ (sq_Pi (sq_D g 0) (i := 0))) (sq_fr_fi 7 _ (sq_Pi (sq_D g 0) (i := 0)))), sq_W_main hW2 (sq_fr_tr (sq_fr_fi 6 _ (sq_Pi (sq_D g 0) (i := 0))) (sq_fr_fi 7 _ (sq_Pi (sq_D g 0) (i := 0)))) (sq_T_stop (hW2).2.1.1 (sq_P_F (by omega)) hI (nI k) (sq_sp m f1 f2 true)) ((hW2).2.2.1 0 (by omega))⟩
      · exact absurd c_162 c_140
  · refine sj_lookup C 129 dX6_doPart_38 (by decide) rfl rfl ?_
    refine sj_aload_n C 130 rfl dX6_doPart_129 rfl rfl ?_
    refine sj_iload_n C 131 rfl dX6_doPart_130 rfl rfl ?_
    refine sj_iload_n C 132 rfl dX6_doPart_131 rfl rfl ?_
    refine sj_iconstv C (0) 133 rfl dX6_doPart_132 rfl ?_
    rw [show (0 : Int32) = sj_bi false from rfl]
    refine sj_callVp C 136 rfl dX6_doPart_133 cv_X6_278 rfl (ct_X6_swearPart _ hW hI hu f1 f2 false) rfl rfl rfl ⟨_, _, kd_x, rfl, rfl, by decide⟩ ⟨rfl, rfl⟩ (fun v_133 S_133 hp_133 => ?_)
    obtain ⟨rfl, hf2, hW2⟩ := hp_133
    have kd_x := hW2.1.1.1
    have rf_x_1 := hW2.1.1.2.2.1
    have kd_t := hW2.2.1.1.1.1
    refine sj_istore_4 C 138 rfl dX6_doPart_136 rfl rfl ?_
    refine sj_iload C 140 rfl dX6_doPart_138 rfl ?_
    refine sj_if_eq C 160 143 rfl rfl dX6_doPart_140 (fun c_140 => ?_) (fun c_140 => ?_)
    · refine sj_iload C 162 rfl dX6_doPart_160 rfl ?_
      refine sj_if_ne C 169 165 rfl rfl dX6_doPart_162 (fun c_162 => ?_) (fun c_162 => ?_)
      · exact absurd c_140 c_162
      · refine sj_iconstv C (1) 166 rfl dX6_doPart_165 rfl ?_
        refine sj_goto C 170 rfl dX6_doPart_166 ?_
        refine sj_zret C hR rfl rfl rfl dX6_doPart_170 ?_
        have e0 : sj_wnp m 117 f1 f2 = sq_sp m f1 f2 false := sq_wnp_u m f1 f2
        rw [e0, if_pos c_140, c_140]
        rw [show sq_sm2 m f1 f2 false = (sj_dpt m 117 f1 f2).1 from (if_pos c_140).trans (sq_dpt_u m f1 f2).symm] at hW2
        exact ⟨rfl, hf2, hW2⟩
    · refine sj_aload_n C 144 rfl dX6_doPart_143 rfl rfl ?_
      refine sj_getr C 147 rfl fd_X6_19 dX6_doPart_144 kd_x rf_x_1 ?_
      refine sj_iload_n C 148 rfl dX6_doPart_147 rfl rfl ?_
      refine sj_putI C 151 rfl fd_X6_181 dX6_doPart_148 rfl rfl kd_t ?_
      refine sj_aload_n C 152 rfl dX6_doPart_151 rfl rfl ?_
      refine sj_getr C 155 rfl fd_X6_19 dX6_doPart_152 kd_x rf_x_1 ?_
      refine sj_iload C 157 rfl dX6_doPart_155 rfl ?_
      refine sj_putI C 160 rfl fd_X6_184 dX6_doPart_157 rfl rfl kd_t ?_
      refine sj_iload C 162 rfl dX6_doPart_160 rfl ?_
      refine sj_if_ne C 169 165 rfl rfl dX6_doPart_162 (fun c_162 => ?_) (fun c_162 => ?_)
      · refine sj_iconstv C (0) 170 rfl dX6_doPart_169 rfl ?_
        refine sj_zret C hR rfl rfl rfl dX6_doPart_170 ?_
        have e0 : sj_wnp m 117 f1 f2 = sq_sp m f1 f2 false := sq_wnp_u m f1 f2
        rw [e0, if_neg c_140, decide_eq_false c_140]
        rw [show sq_sm2 m f1 f2 false = m from if_neg c_140] at hW2
        refine ⟨rfl, sq_fr_tr hf2 (sq_fr_tr (sq_fr_fi 6 _ (sq_Pi (sq_D g 0) (i := 0))) (sq_fr_fi 7 _ (sq_Pi (sq_D g 0) (i := 0)))), sq_W_main hW2 (sq_fr_tr (sq_fr_fi 6 _ (sq_Pi (sq_D g 0) (i := 0))) (sq_fr_fi 7 _ (sq_Pi (sq_D g 0) (i := 0)))) (sq_T_stop (hW2).2.1.1 (sq_P_F (by omega)) hI (nI k) (sq_sp m f1 f2 false)) ((hW2).2.2.1 0 (by omega))⟩
      · exact absurd c_162 c_140
  · refine sj_lookup C 72 dX6_doPart_38 (by decide) rfl rfl ?_
    refine sj_aload_n C 73 rfl dX6_doPart_72 rfl rfl ?_
    refine sj_getr C 76 rfl fd_X6_19 dX6_doPart_73 kd_x rf_x_1 ?_
    refine sj_iload_n C 77 rfl dX6_doPart_76 rfl rfl ?_
    refine sj_callVd C 80 rfl dX6_doPart_77 cv_X6_98 rfl (ct_X4_growOlder _ hT hI f1) rfl rfl rfl ⟨_, _, kd_t, rfl, rfl, by decide⟩ ⟨rfl, rfl⟩ ?_
    refine sj_pop C 81 rfl dX6_doPart_80 rfl ?_
    refine sj_goto C 138 rfl dX6_doPart_81 ?_
    refine sj_iload C 140 rfl dX6_doPart_138 rfl ?_
    refine sj_if_eq C 160 143 rfl rfl dX6_doPart_140 (fun c_140 => ?_) (fun c_140 => ?_)
    · refine sj_iload C 162 rfl dX6_doPart_160 rfl ?_
      refine sj_if_ne C 169 165 rfl rfl dX6_doPart_162 (fun c_162 => ?_) (fun c_162 => ?_)
      · exact absurd rfl c_162
      · refine sj_iconstv C (1) 166 rfl dX6_doPart_165 rfl ?_
        refine sj_goto C 170 rfl dX6_doPart_166 ?_
        refine sj_zret C hR rfl rfl rfl dX6_doPart_170 ?_
        have e0 : sj_wnp m 121 f1 f2 = 0 := if_pos rfl
        have e1 : (sj_dpt m 121 f1 f2).1 = sj_pas m f1 (sj_tn (m 9)) := congrArg Prod.fst (if_pos rfl)
        rw [e0, if_pos rfl, e1]
        exact ⟨rfl, sq_fr_ia _ (sq_Pi (sq_D g 0) (i := 4)), sq_W_main hW (sq_fr_ia _ (sq_Pi (sq_D g 0) (i := 4))) (sq_T_pas hT (sq_P_F (by omega)) hI (sj_inv_pas hI (hy rfl) _ rfl)) (sq_k3_ia (hK3 0 (by omega)))⟩
    · exact absurd rfl c_140
  · refine sj_lookup C 84 dX6_doPart_38 (by decide) rfl rfl ?_
    refine sj_aload_n C 85 rfl dX6_doPart_84 rfl rfl ?_
    refine sj_iload_n C 86 rfl dX6_doPart_85 rfl rfl ?_
    refine sj_callVd C 89 rfl dX6_doPart_86 cv_X6_83 rfl (ct_X6_isThere _ hW hI f1) rfl rfl rfl ⟨_, _, kd_x, rfl, rfl, by decide⟩ ⟨rfl, rfl⟩ ?_
    refine sj_if_eq C 96 92 rfl rfl dX6_doPart_89 (fun c_89 => ?_) (fun c_89 => ?_)
    · refine sj_bipush C (7) 98 rfl dX6_doPart_96 (by decide) ?_
      refine sj_istore_4 C 100 rfl dX6_doPart_98 rfl rfl ?_
      refine sj_iload C 102 rfl dX6_doPart_100 rfl ?_
      refine sj_if_ne C 138 105 rfl rfl dX6_doPart_102 (fun c_102 => ?_) (fun c_102 => ?_)
      · refine sj_iload C 140 rfl dX6_doPart_138 rfl ?_
        refine sj_if_eq C 160 143 rfl rfl dX6_doPart_140 (fun c_140 => ?_) (fun c_140 => ?_)
        · exact absurd c_140 (by decide)
        · refine sj_aload_n C 144 rfl dX6_doPart_143 rfl rfl ?_
          refine sj_getr C 147 rfl fd_X6_19 dX6_doPart_144 kd_x rf_x_1 ?_
          refine sj_iload_n C 148 rfl dX6_doPart_147 rfl rfl ?_
          refine sj_putI C 151 rfl fd_X6_181 dX6_doPart_148 rfl rfl kd_t ?_
          refine sj_aload_n C 152 rfl dX6_doPart_151 rfl rfl ?_
          refine sj_getr C 155 rfl fd_X6_19 dX6_doPart_152 kd_x rf_x_1 ?_
          refine sj_iload C 157 rfl dX6_doPart_155 rfl ?_
          refine sj_putI C 160 rfl fd_X6_184 dX6_doPart_157 rfl rfl kd_t ?_
          refine sj_iload C 162 rfl dX6_doPart_160 rfl ?_
          refine sj_if_ne C 169 165 rfl rfl dX6_doPart_162 (fun c_162 => ?_) (fun c_162 => ?_)
          · refine sj_iconstv C (0) 170 rfl dX6_doPart_169 rfl ?_
            refine sj_zret C hR rfl rfl rfl dX6_doPart_170 ?_
            have e0 : sj_wnp m 100 f1 f2 = 7 := (if_neg (by decide)).trans (if_pos (Or.inl (sj_bi0.mp c_89)))
            rw [e0, if_neg (by decide)]
            refine ⟨rfl, sq_fr_tr sq_fr_id (sq_fr_tr (sq_fr_fi 6 _ (sq_Pi (sq_D g 0) (i := 0))) (sq_fr_fi 7 _ (sq_Pi (sq_D g 0) (i := 0)))), sq_W_main hW (sq_fr_tr (sq_fr_fi 6 _ (sq_Pi (sq_D g 0) (i := 0))) (sq_fr_fi 7 _ (sq_Pi (sq_D g 0) (i := 0)))) (sq_T_stop (hW).2.1.1 (sq_P_F (by omega)) hI (nI k) 7) ((hW).2.2.1 0 (by omega))⟩
          · exact absurd c_162 (by decide)
      · exact absurd c_102 (by decide)
    · refine sj_iconstv C (0) 93 rfl dX6_doPart_92 rfl ?_
      refine sj_goto C 98 rfl dX6_doPart_93 ?_
      refine sj_istore_4 C 100 rfl dX6_doPart_98 rfl rfl ?_
      refine sj_iload C 102 rfl dX6_doPart_100 rfl ?_
      refine sj_if_ne C 138 105 rfl rfl dX6_doPart_102 (fun c_102 => ?_) (fun c_102 => ?_)
      · exact absurd rfl c_102
      · obtain ⟨i, hi, rfl⟩ := sj_isn_n h9 hn8 (sj_bin.mp c_89)
        have ei : sj_tn (nI i) = i := sj_tn_nI (by omega)
        have e0 : sj_wnp m 100 (nI i) f2 = 0 := (if_neg (by decide)).trans ((if_neg (fun h => h.elim (fun h => by rw [sj_bin.mp c_89] at h; exact absurd h (by decide)) (fun h => h.1 rfl))).trans (if_pos rfl))
        have e1 : (sj_dpt m 100 (nI i) f2).1 = sj_drp m i := (congrArg Prod.fst ((if_neg (by decide)).trans (if_pos rfl))).trans (by show sj_drp m (sj_tn (nI i)) = _; rw [ei])
        refine sj_aload_n C 106 rfl dX6_doPart_105 rfl rfl ?_
        refine sj_getr C 109 rfl fd_X6_19 dX6_doPart_106 kd_x rf_x_1 ?_
        refine sj_iload_n C 110 rfl dX6_doPart_109 rfl rfl ?_
        refine sj_callVd C 113 rfl dX6_doPart_110 cv_X6_92 rfl (ct_X4_takeAway _ hT.1 (hK3 0 (by omega)) hi hn8 hN28 (h3.trans h9) (hRo.1.trans hI.2.1.1)) rfl rfl rfl ⟨_, _, kd_t, rfl, rfl, by decide⟩ ⟨rfl, rfl⟩ ?_
        refine sj_pop C 114 rfl dX6_doPart_113 rfl ?_
        refine sj_goto C 138 rfl dX6_doPart_114 ?_
        refine sj_iload C 140 rfl dX6_doPart_138 rfl ?_
        refine sj_if_eq C 160 143 rfl rfl dX6_doPart_140 (fun c_140 => ?_) (fun c_140 => ?_)
        · refine sj_iload C 162 rfl dX6_doPart_160 rfl ?_
          refine sj_if_ne C 169 165 rfl rfl dX6_doPart_162 (fun c_162 => ?_) (fun c_162 => ?_)
          · exact absurd rfl c_162
          · refine sj_iconstv C (1) 166 rfl dX6_doPart_165 rfl ?_
            refine sj_goto C 170 rfl dX6_doPart_166 ?_
            refine sj_zret C hR rfl rfl rfl dX6_doPart_170 ?_
            rw [e0, if_pos rfl, e1]
            obtain ⟨hT9, hd9⟩ := sq_T_drp hT (sq_P_F (by omega)) hI hi
            exact ⟨rfl, sq_fr_tz i _ _, sq_W_main hW (sq_fr_tz i _ _) hT9 (sq_k3_tz hT.1 (hK3 0 (by omega)) i _ _)⟩
        · exact absurd rfl c_140
