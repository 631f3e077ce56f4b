/-! THE CLASS ITSELF: its changes -/
set_option maxRecDepth 100000 in
set_option maxHeartbeats 150000 in
theorem ct_X6_drop (l : Launch) {S : sj_St} {g : Nat → Nat} {m : Nat → Int32} {hs : Bool} {ms : Nat → Int32} {p q : Nat} {Q : Nat → Nat → Int32} {n : Nat} {B : Nat → Int32} (hW : sq_W S g m hs ms p q Q n B) (hI : sj_inv m) (v : Int32) (hsv : sj_isn m v = true) : sj_Ctr l mX6_drop [.ref (g 141), .int v] S (fun r T => r = some (.int (sj_drn m (sj_tn v))) ∧ sq_fr (sq_Cl g) S T ∧ sq_W T g (sj_drp m (sj_tn v)) hs ms (sq_n6 p) (sq_q6 q) (sq_Qs m Q) n B) := by
  refine sj_start ([some (.ref (g 141)), some (.int v)]) (by decide +kernel) rfl rfl (fun X hX C hR => ?_)
  subst hX
  obtain ⟨⟨⟨kd_x, rf_x_0, rf_x_1, rf_x_2, rf_x_3⟩, hTl, hHl, hinj⟩, ⟨hT, h4, hT1⟩, hK3, ⟨hH1, hp6, hH2, hq6, hQ⟩, hX, hB⟩ := id hW
  have kd_t := hT.1.1
  have rf_t_4 := hT.1.2.2.2.2.1.1
  have rf_t_5 := hT.1.2.2.2.2.2.1.1
  have hol := hT.1.2.2.2.2.1.2
  have kd_o := hol.1
  have hset := hT.1.2.2.2.2.2.1.2
  have kd_se := hset.1
  have kd_tx := hX.1
  have kd_hi := hHl.1
  have h3 : sj_fi S (g 0) 3 = m 9 := hT.2.1.1
  have h6 : sj_fi S (g 0) 6 = m 12 := hT.2.1.2.1
  have h7 : sj_fi S (g 0) 7 = m 13 := hT.2.1.2.2
  have hRo := hT.2.2.2.2.1
  obtain ⟨h9, hn8⟩ := id hI.1
  have hN28 := hI.2.1.2
  have hv := sj_inv_oav hI
  have hi0 := hsv
  obtain ⟨i, hi, rfl⟩ := sj_isn_n h9 hn8 hsv
  have ei : sj_tn (nI i) = i := sj_tn_nI (by omega)
  refine sj_aload_n C 1 rfl dX6_drop_0 rfl rfl ?_
  refine sj_iload_n C 2 rfl dX6_drop_1 rfl rfl ?_
  refine sj_callVd C 5 rfl dX6_drop_2 cv_X6_83 rfl (ct_X6_isThere _ hW hI _) rfl rfl rfl ⟨_, _, kd_x, rfl, rfl, by decide⟩ ⟨rfl, rfl⟩ ?_
  refine sj_if_ne C 18 8 rfl rfl dX6_drop_5 (fun c_5 => ?_) (fun c_5 => ?_)
  · refine sj_aload_n C 19 rfl dX6_drop_18 rfl rfl ?_
    refine sj_getr C 22 rfl fd_X6_26 dX6_drop_19 kd_x rf_x_2 ?_
    refine sj_aload_n C 23 rfl dX6_drop_22 rfl rfl ?_
    refine sj_getr C 26 rfl fd_X6_19 dX6_drop_23 kd_x rf_x_1 ?_
    refine sj_callVv C 29 rfl dX6_drop_26 cv_X6_57 rfl (ct_X0_save _ hHl (fun j hj => hTl (2 + j) (by omega)) (hTl 0 (by omega)) hp6 hq6 hH1 hH2 (hK3 0 (by omega)) (fun j hj => sq_D_tp hinj (by omega) (by omega) (by omega)) (fun j i hj hi => sq_inj hinj (i := 139) (j := 16 * (2 + j) + i) (by omega))) rfl rfl rfl ⟨_, _, kd_hi, rfl, rfl, by decide⟩ ⟨rfl, rfl⟩ ?_
    obtain ⟨hW2, hf2⟩ := sq_W_save hW hI
    generalize sq_svS S (g 139) (fun j => sq_D g (2 + j)) (sq_D g 0) p q = S2 at hW2 hf2 ⊢
    obtain ⟨⟨⟨kd_x, rf_x_0, rf_x_1, rf_x_2, rf_x_3⟩, hTl, hHl, hinj⟩, ⟨hT, h4, hT1⟩, hK3, ⟨hH1, hp6, hH2, hq6, hQ⟩, hX, hB⟩ := id hW2
    have kd_t := hT.1.1
    have rf_t_4 := hT.1.2.2.2.2.1.1
    have rf_t_5 := hT.1.2.2.2.2.2.1.1
    have hol := hT.1.2.2.2.2.1.2
    have kd_o := hol.1
    have hset := hT.1.2.2.2.2.2.1.2
    have kd_se := hset.1
    have kd_tx := hX.1
    have kd_hi := hHl.1
    have h3 : sj_fi S2 (g 0) 3 = m 9 := hT.2.1.1
    have h6 : sj_fi S2 (g 0) 6 = m 12 := hT.2.1.2.1
    have h7 : sj_fi S2 (g 0) 7 = m 13 := hT.2.1.2.2
    have hRo := hT.2.2.2.2.1
    obtain ⟨h9, hn8⟩ := id hI.1
    have hN28 := hI.2.1.2
    have hv := sj_inv_oav hI
    refine sj_aload_n C 30 rfl dX6_drop_29 rfl rfl ?_
    refine sj_getr C 33 rfl fd_X6_19 dX6_drop_30 kd_x rf_x_1 ?_
    refine sj_iload_n C 34 rfl dX6_drop_33 rfl rfl ?_
    refine sj_callVd C 37 rfl dX6_drop_34 cv_X6_92 rfl (ct_X4_takeAway _ hT.1 (hK3 0 (by omega)) hi hn8 hN28 (h3.trans h9) (hRo.1.trans hI.2.1.1)) rfl rfl rfl ⟨_, _, kd_t, rfl, rfl, by decide⟩ ⟨rfl, rfl⟩ ?_
    refine sj_iret C hR rfl rfl dX6_drop_37 ?_
    rw [ei]
    obtain ⟨hT9, hd9⟩ := sq_T_drp hT (sq_P_F (by omega)) hI hi
    refine ⟨?_, sq_fr_tr hf2 (sq_fr_up (sq_fr_tz i _ _) (sq_P_C (by omega))), sq_W_main hW2 (sq_fr_tz i _ _) hT9 (sq_k3_tz hT.1 (hK3 0 (by omega)) i _ _)⟩
    rw [hd9]
  · exact absurd c_5 (by rw [hi0]; decide)
theorem sq_k3_ia {S : sj_St} {D : Nat → Nat} {a : Nat} {f : Nat → Int32} (h : sq_k3 S D) : sq_k3 (sj_sIa S a f) D := h
theorem sq_k3_os {S : sj_St} {D : Nat → Nat} {o : Nat} {d : Nat → Nat} {c : sq_C} (h : sq_k3 S D) : sq_k3 (sq_os S o d c) D := h
set_option maxRecDepth 100000 in
set_option maxHeartbeats 150000 in
theorem ct_X6_pass (l : Launch) {S : sj_St} {g : Nat → Nat} {m : Nat → Int32} {hs : Bool} {ms : Nat → Int32} {p q : Nat} {Q : Nat → Nat → Int32} {n : Nat} {B : Nat → Int32} (hW : sq_W S g m hs ms p q Q n B) (hI : sj_inv m) (y : Int32) (hy : sj_wi y 1 99 = true) : sj_Ctr l mX6_pass [.ref (g 141), .int y] S (fun r T => r = some (.int (sj_old m y (sj_tn (m 9)))) ∧ sq_fr (sq_Cl g) S T ∧ sq_W T g (sj_pas m y (sj_tn (m 9))) hs ms (sq_n6 p) (sq_q6 q) (sq_Qs m Q) n B) := by
  refine sj_start ([some (.ref (g 141)), some (.int y)]) (by decide +kernel) rfl rfl (fun X hX C hR => ?_)
  subst hX
  obtain ⟨⟨⟨kd_x, rf_x_0, rf_x_1, rf_x_2, rf_x_3⟩, hTl, hHl, hinj⟩, ⟨hT, h4, hT1⟩, hK3, ⟨hH1, hp6, hH2, hq6, hQ⟩, hX, hB⟩ := id hW
  have kd_t := hT.1.1
  have rf_t_4 := hT.1.2.2.2.2.1.1
  have rf_t_5 := hT.1.2.2.2.2.2.1.1
  have hol := hT.1.2.2.2.2.1.2
  have kd_o := hol.1
  have hset := hT.1.2.2.2.2.2.1.2
  have kd_se := hset.1
  have kd_tx := hX.1
  have kd_hi := hHl.1
  have h3 : sj_fi S (g 0) 3 = m 9 := hT.2.1.1
  have h6 : sj_fi S (g 0) 6 = m 12 := hT.2.1.2.1
  have h7 : sj_fi S (g 0) 7 = m 13 := hT.2.1.2.2
  have hRo := hT.2.2.2.2.1
  obtain ⟨h9, hn8⟩ := id hI.1
  have hN28 := hI.2.1.2
  have hv := sj_inv_oav hI
  obtain ⟨hy1, hy2⟩ := sj_wi_iff.mp hy
  have hy9 : 0 ≤ y ∧ y ≤ 99 := ⟨Int32.le_trans (by decide) hy1, hy2⟩
  refine sj_iload_n C 1 rfl dX6_pass_0 rfl rfl ?_
  refine sj_iconstv C (1) 2 rfl dX6_pass_1 rfl ?_
  refine sj_icmp_lt C 11 5 rfl rfl dX6_pass_2 (fun c_2 => ?_) (fun c_2 => ?_)
  · exact absurd hy1 (Int32.not_le.mpr c_2)
  · refine sj_iload_n C 6 rfl dX6_pass_5 rfl rfl ?_
    refine sj_bipush C (99) 8 rfl dX6_pass_6 (by decide) ?_
    refine sj_icmp_le C 21 11 rfl rfl dX6_pass_8 (fun c_8 => ?_) (fun c_8 => ?_)
    · refine sj_aload_n C 22 rfl dX6_pass_21 rfl rfl ?_
      refine sj_getr C 25 rfl fd_X6_26 dX6_pass_22 kd_x rf_x_2 ?_
      refine sj_aload_n C 26 rfl dX6_pass_25 rfl rfl ?_
      refine sj_getr C 29 rfl fd_X6_19 dX6_pass_26 kd_x rf_x_1 ?_
      refine sj_callVv C 32 rfl dX6_pass_29 cv_X6_57 rfl (ct_X0_save _ hHl (fun j hj => hTl (2 + j) (by omega)) (hTl 0 (by omega)) hp6 hq6 hH1 hH2 (hK3 0 (by omega)) (fun j hj => sq_D_tp hinj (by omega) (by omega) (by omega)) (fun j i hj hi => sq_inj hinj (i := 139) (j := 16 * (2 + j) + i) (by omega))) rfl rfl rfl ⟨_, _, kd_hi, rfl, rfl, by decide⟩ ⟨rfl, rfl⟩ ?_
      obtain ⟨hW2, hf2⟩ := sq_W_save hW hI
      generalize sq_svS S (g 139) (fun j => sq_D g (2 + j)) (sq_D g 0) p q = S2 at hW2 hf2 ⊢
      obtain ⟨⟨⟨kd_x, rf_x_0, rf_x_1, rf_x_2, rf_x_3⟩, hTl, hHl, hinj⟩, ⟨hT, h4, hT1⟩, hK3, ⟨hH1, hp6, hH2, hq6, hQ⟩, hX, hB⟩ := id hW2
      have kd_t := hT.1.1
      have rf_t_4 := hT.1.2.2.2.2.1.1
      have rf_t_5 := hT.1.2.2.2.2.2.1.1
      have hol := hT.1.2.2.2.2.1.2
      have kd_o := hol.1
      have hset := hT.1.2.2.2.2.2.1.2
      have kd_se := hset.1
      have kd_tx := hX.1
      have kd_hi := hHl.1
      have h3 : sj_fi S2 (g 0) 3 = m 9 := hT.2.1.1
      have h6 : sj_fi S2 (g 0) 6 = m 12 := hT.2.1.2.1
      have h7 : sj_fi S2 (g 0) 7 = m 13 := hT.2.1.2.2
      have hRo := hT.2.2.2.2.1
      obtain ⟨h9, hn8⟩ := id hI.1
      have hN28 := hI.2.1.2
      have hv := sj_inv_oav hI
      refine sj_aload_n C 33 rfl dX6_pass_32 rfl rfl ?_
      refine sj_getr C 36 rfl fd_X6_19 dX6_pass_33 kd_x rf_x_1 ?_
      refine sj_iload_n C 37 rfl dX6_pass_36 rfl rfl ?_
      refine sj_callVd C 40 rfl dX6_pass_37 cv_X6_98 rfl (ct_X4_growOlder _ hT hI y) rfl rfl rfl ⟨_, _, kd_t, rfl, rfl, by decide⟩ ⟨rfl, rfl⟩ ?_
      refine sj_iret C hR rfl rfl dX6_pass_40 ?_
      refine ⟨rfl, sq_fr_tr hf2 (sq_fr_up (sq_fr_ia _ (sq_Pi (sq_D g 0) (i := 4))) (sq_P_C (by omega))), sq_W_main hW2 (sq_fr_ia _ (sq_Pi (sq_D g 0) (i := 4))) (sq_T_pas hT (sq_P_F (by omega)) hI (sj_inv_pas hI hy9 _ rfl)) (sq_k3_ia (hK3 0 (by omega)))⟩
    · exact absurd hy2 c_8
theorem sj_t2_m {s : Nat} (h1 : s < 9) : sj_t2 s = sj_mst (nI s) := by
  have h : ∀ s, s < 9 → sj_t2 s = sj_mst (nI s) := by decide +kernel
  exact h s h1
set_option maxRecDepth 100000 in
set_option maxHeartbeats 150000 in
theorem ct_X6_set (l : Launch) {S : sj_St} {g : Nat → Nat} {m : Nat → Int32} {hs : Bool} {ms : Nat → Int32} {p q : Nat} {Q : Nat → Nat → Int32} {n : Nat} {B : Nat → Int32} (hW : sq_W S g m hs ms p q Q n B) (hI : sj_inv m) (w v : Int32) (hsw : sj_wi w 0 8 = true) (hsv : sj_wi v 0 (sj_mst w) = true) : sj_Ctr l mX6_set [.ref (g 141), .int w, .int v] S (fun r T => r = some (.int (m (sj_tn w))) ∧ sq_fr (sq_Cl g) S T ∧ sq_W T g (upd m (sj_tn w) v) hs ms (sq_n6 p) (sq_q6 q) (sq_Qs m Q) n B) := by
  refine sj_start ([some (.ref (g 141)), some (.int w), some (.int v), none]) (by decide +kernel) rfl rfl (fun X hX C hR => ?_)
  subst hX
  obtain ⟨⟨⟨kd_x, rf_x_0, rf_x_1, rf_x_2, rf_x_3⟩, hTl, hHl, hinj⟩, ⟨hT, h4, hT1⟩, hK3, ⟨hH1, hp6, hH2, hq6, hQ⟩, hX, hB⟩ := id hW
  have kd_t := hT.1.1
  have rf_t_4 := hT.1.2.2.2.2.1.1
  have rf_t_5 := hT.1.2.2.2.2.2.1.1
  have hol := hT.1.2.2.2.2.1.2
  have kd_o := hol.1
  have hset := hT.1.2.2.2.2.2.1.2
  have kd_se := hset.1
  have kd_tx := hX.1
  have kd_hi := hHl.1
  have h3 : sj_fi S (g 0) 3 = m 9 := hT.2.1.1
  have h6 : sj_fi S (g 0) 6 = m 12 := hT.2.1.2.1
  have h7 : sj_fi S (g 0) 7 = m 13 := hT.2.1.2.2
  have hRo := hT.2.2.2.2.1
  obtain ⟨h9, hn8⟩ := id hI.1
  have hN28 := hI.2.1.2
  have hv := sj_inv_oav hI
  obtain ⟨s, hs, rfl⟩ := sj_wi_nI (n := 8) (by omega) hsw
  have es : sj_tn (nI s) = s := sj_tn_nI (by omega)
  obtain ⟨hv1, hv2⟩ := sj_wi_iff.mp hsv
  have hIM : sj_inv (upd m s v) := sj_inv_set hI (by omega) hsv
  refine sj_iload_n C 1 rfl dX6_set_0 rfl rfl ?_
  refine sj_if_lt C 18 4 rfl rfl dX6_set_1 (fun c_1 => ?_) (fun c_1 => ?_)
  · exact absurd c_1 (nI_pos (by omega))
  · refine sj_iload_n C 5 rfl dX6_set_4 rfl rfl ?_
    refine sj_bipush C (9) 7 rfl dX6_set_5 (by decide) ?_
    refine sj_icmp_ge C 18 10 rfl rfl dX6_set_7 (fun c_7 => ?_) (fun c_7 => ?_)
    · exact absurd c_7 (nI_ge (b := 9) (by omega) (by omega))
    · refine sj_iload_n C 11 rfl dX6_set_10 rfl rfl ?_
      refine sj_getsR C true 14 rfl dX6_set_11 (Or.inl (wr_21 _ (List.mem_of_getElem? (i := 5) (by decide +kernel)))) (fun tab1 T_tab1 => ?_)
      refine sj_tlen C 15 rfl dX6_set_14 T_tab1 ?_
      refine sj_icmp_lt C 28 18 rfl rfl dX6_set_15 (fun c_15 => ?_) (fun c_15 => ?_)
      · refine sj_iload_n C 29 rfl dX6_set_28 rfl rfl ?_
        refine sj_if_lt C 41 32 rfl rfl dX6_set_29 (fun c_29 => ?_) (fun c_29 => ?_)
        · exact absurd c_29 (Int32.not_lt.mpr hv1)
        · refine sj_iload_n C 33 rfl dX6_set_32 rfl rfl ?_
          refine sj_getsR C true 36 rfl dX6_set_33 (Or.inl (wr_21 _ (List.mem_of_getElem? (i := 5) (by decide +kernel)))) (fun tab2 T_tab2 => ?_)
          refine sj_iload_n C 37 rfl dX6_set_36 rfl rfl ?_
          refine sj_tld C 38 rfl dX6_set_37 T_tab2 (vp_in_nI (by omega) (by omega)) ?_
          rw [nI_clamp (by omega)]
          refine sj_icmp_le C 51 41 rfl rfl dX6_set_38 (fun c_38 => ?_) (fun c_38 => ?_)
          · refine sj_aload_n C 52 rfl dX6_set_51 rfl rfl ?_
            refine sj_getr C 55 rfl fd_X6_26 dX6_set_52 kd_x rf_x_2 ?_
            refine sj_aload_n C 56 rfl dX6_set_55 rfl rfl ?_
            refine sj_getr C 59 rfl fd_X6_19 dX6_set_56 kd_x rf_x_1 ?_
            refine sj_callVv C 62 rfl dX6_set_59 cv_X6_57 rfl (ct_X0_save _ hHl (fun j hj => hTl (2 + j) (by omega)) (hTl 0 (by omega)) hp6 hq6 hH1 hH2 (hK3 0 (by omega)) (fun j hj => sq_D_tp hinj (by omega) (by omega) (by omega)) (fun j i hj hi => sq_inj hinj (i := 139) (j := 16 * (2 + j) + i) (by omega))) rfl rfl rfl ⟨_, _, kd_hi, rfl, rfl, by decide⟩ ⟨rfl, rfl⟩ ?_
            obtain ⟨hW2, hf2⟩ := sq_W_save hW hI
            generalize sq_svS S (g 139) (fun j => sq_D g (2 + j)) (sq_D g 0) p q = S2 at hW2 hf2 ⊢
            obtain ⟨⟨⟨kd_x, rf_x_0, rf_x_1, rf_x_2, rf_x_3⟩, hTl, hHl, hinj⟩, ⟨hT, h4, hT1⟩, hK3, ⟨hH1, hp6, hH2, hq6, hQ⟩, hX, hB⟩ := id hW2
            have kd_t := hT.1.1
            have rf_t_4 := hT.1.2.2.2.2.1.1
            have rf_t_5 := hT.1.2.2.2.2.2.1.1
            have hol := hT.1.2.2.2.2.1.2
            have kd_o := hol.1
            have hset := hT.1.2.2.2.2.2.1.2
            have kd_se := hset.1
            have kd_tx := hX.1
            have kd_hi := hHl.1
            have h3 : sj_fi S2 (g 0) 3 = m 9 := hT.2.1.1
            have h6 : sj_fi S2 (g 0) 6 = m 12 := hT.2.1.2.1
            have h7 : sj_fi S2 (g 0) 7 = m 13 := hT.2.1.2.2
            have hRo := hT.2.2.2.2.1
            obtain ⟨h9, hn8⟩ := id hI.1
            have hN28 := hI.2.1.2
            have hv := sj_inv_oav hI
            refine sj_aload_n C 63 rfl dX6_set_62 rfl rfl ?_
            refine sj_getr C 66 rfl fd_X6_19 dX6_set_63 kd_x rf_x_1 ?_
            refine sj_getr C 69 rfl fd_X6_109 dX6_set_66 kd_t rf_t_5 ?_
            refine sj_iload_n C 70 rfl dX6_set_69 rfl rfl ?_
            refine sj_callVd C 73 rfl dX6_set_70 cv_X6_112 rfl (ct_X2_at _ hset _) rfl rfl rfl ⟨_, _, kd_se, rfl, rfl, by decide⟩ ⟨rfl, rfl⟩ ?_
            rw [sj_at_nI _ (by omega) (by omega), hT.2.2.2.1 s (by omega)]
            refine sj_istore_n_3 C 74 rfl dX6_set_73 rfl rfl ?_
            refine sj_aload_n C 75 rfl dX6_set_74 rfl rfl ?_
            refine sj_getr C 78 rfl fd_X6_19 dX6_set_75 kd_x rf_x_1 ?_
            refine sj_getr C 81 rfl fd_X6_109 dX6_set_78 kd_t rf_t_5 ?_
            refine sj_iload_n C 82 rfl dX6_set_81 rfl rfl ?_
            refine sj_iload_n C 83 rfl dX6_set_82 rfl rfl ?_
            refine sj_callVv C 86 rfl dX6_set_83 cv_X6_117 rfl (ct_X2_put _ hset _ _) rfl rfl rfl ⟨_, _, kd_se, rfl, rfl, by decide⟩ ⟨rfl, rfl⟩ ?_
            rw [sj_put_nI (by omega) (by omega), sj_wIa_eq]
            refine sj_iload_n C 87 rfl dX6_set_86 rfl rfl ?_
            refine sj_iret C hR rfl rfl dX6_set_87 ?_
            refine ⟨by rw [es], sq_fr_tr hf2 (sq_fr_up (sq_fr_ia _ (sq_Pi (sq_D g 0) (i := 15))) (sq_P_C (by omega))), by rw [es]; exact sq_W_main hW2 (sq_fr_ia _ (sq_Pi (sq_D g 0) (i := 15))) (sq_T_set hT (sq_P_F (by omega)) hI (by omega) hIM) (sq_k3_ia (hK3 0 (by omega)))⟩
          · exact absurd (show v ≤ sj_t2 s by rw [sj_t2_m (by omega)]; exact hv2) c_38
      · exact absurd (show nI s < nI 9 from nI_lt (by omega) (by omega)) c_15
set_option maxRecDepth 100000 in
set_option maxHeartbeats 150000 in
theorem ct_X6_undo (l : Launch) {S : sj_St} {g : Nat → Nat} {m : Nat → Int32} {hs : Bool} {ms : Nat → Int32} {p q : Nat} {Q : Nat → Nat → Int32} {n : Nat} {B : Nat → Int32} (hW : sq_W S g m hs ms p q Q n B) (hI : sj_inv m) (h0 : 0 < q) (hIQ : sj_inv (Q 0)) : sj_Ctr l mX6_undo [.ref (g 141)] S (fun r T => r = some (.int (nI (q - 1))) ∧ sq_fr (sq_Cl g) S T ∧ sq_W T g (Q 0) hs ms (sq_p6 p) (q - 1) (fun j => Q (j + 1)) n B) := by
  refine sj_start ([some (.ref (g 141))]) (by decide +kernel) rfl rfl (fun X hX C hR => ?_)
  subst hX
  obtain ⟨⟨⟨kd_x, rf_x_0, rf_x_1, rf_x_2, rf_x_3⟩, hTl, hHl, hinj⟩, ⟨hT, h4, hT1⟩, hK3, ⟨hH1, hp6, hH2, hq6, hQ⟩, hX, hB⟩ := id hW
  have kd_t := hT.1.1
  have rf_t_4 := hT.1.2.2.2.2.1.1
  have rf_t_5 := hT.1.2.2.2.2.2.1.1
  have hol := hT.1.2.2.2.2.1.2
  have kd_o := hol.1
  have hset := hT.1.2.2.2.2.2.1.2
  have kd_se := hset.1
  have kd_tx := hX.1
  have kd_hi := hHl.1
  have h3 : sj_fi S (g 0) 3 = m 9 := hT.2.1.1
  have h6 : sj_fi S (g 0) 6 = m 12 := hT.2.1.2.1
  have h7 : sj_fi S (g 0) 7 = m 13 := hT.2.1.2.2
  have hRo := hT.2.2.2.2.1
  obtain ⟨h9, hn8⟩ := id hI.1
  have hN28 := hI.2.1.2
  have hv := sj_inv_oav hI
  refine sj_aload_n C 1 rfl dX6_undo_0 rfl rfl ?_
  refine sj_getr C 4 rfl fd_X6_26 dX6_undo_1 kd_x rf_x_2 ?_
  refine sj_getI C 7 rfl fd_X6_187 dX6_undo_4 kd_hi ?_
  rw [hH2]
  refine sj_if_gt C 20 10 rfl rfl dX6_undo_7 (fun c_7 => ?_) (fun c_7 => ?_)
  · refine sj_aload_n C 21 rfl dX6_undo_20 rfl rfl ?_
    refine sj_getr C 24 rfl fd_X6_26 dX6_undo_21 kd_x rf_x_2 ?_
    refine sj_aload_n C 25 rfl dX6_undo_24 rfl rfl ?_
    refine sj_getr C 28 rfl fd_X6_19 dX6_undo_25 kd_x rf_x_1 ?_
    refine sj_callVv C 31 rfl dX6_undo_28 cv_X6_190 rfl (ct_X0_bringBack _ hHl (fun j hj => hTl (2 + j) (by omega)) (hTl 0 (by omega)) hp6 hq6 hH1 hH2 h0 (fun j hj => hK3 (2 + j) (by omega)) (fun j hj => sq_D_tp hinj (by omega) (by omega) (by omega)) (fun i hi => sq_inj hinj (i := 139) (j := 16 * 0 + i) (by omega))) rfl rfl rfl ⟨_, _, kd_hi, rfl, rfl, by decide⟩ ⟨rfl, rfl⟩ ?_
    obtain ⟨hW2, hf2⟩ := sq_W_undo hW h0 hIQ
    generalize sq_bbS S (g 139) (fun j => sq_D g (2 + j)) (sq_D g 0) p q = S2 at hW2 hf2 ⊢
    obtain ⟨⟨⟨kd_x, rf_x_0, rf_x_1, rf_x_2, rf_x_3⟩, hTl, hHl, hinj⟩, -, -, ⟨hH1, -, hH2, -, -⟩, -, -⟩ := id hW2
    have kd_hi := hHl.1
    refine sj_aload_n C 32 rfl dX6_undo_31 rfl rfl ?_
    refine sj_getr C 35 rfl fd_X6_26 dX6_undo_32 kd_x rf_x_2 ?_
    refine sj_getI C 38 rfl fd_X6_187 dX6_undo_35 kd_hi ?_
    rw [hH2]
    refine sj_iret C hR rfl rfl dX6_undo_38 ?_
    exact ⟨rfl, hf2, hW2⟩
  · exact absurd (Int32.not_le.mp (nI_nle h0 (by omega))) c_7
theorem sq_W_app {S : sj_St} {g : Nat → Nat} {m : Nat → Int32} {hs : Bool} {ms : Nat → Int32} {p q : Nat} {Q : Nat → Nat → Int32} {n : Nat} {B : Nat → Int32} (hW : sq_W S g m hs ms p q Q n B) (hn : n < 60) {c : Int32} (hc : sj_wi c 33 126 = true) : sq_W (sj_wFi (sj_sIa S (sq_E g 2) (upd (sj_ia S (sq_E g 2)) n c)) (g 128) 1 (nI (n + 1))) g m hs ms p q Q (n + 1) (upd B n c) ∧ sq_fr (sq_Cl g) S (sj_wFi (sj_sIa S (sq_E g 2) (upd (sj_ia S (sq_E g 2)) n c)) (g 128) 1 (nI (n + 1))) := by
  obtain ⟨g0, g1, g2, g3, g4, g5, ⟨g6, g7, g8⟩, g9⟩ := hW.2.2.2.2.1
  refine sq_W_text hW (sq_fr_tr (sq_fr_ia _ ⟨2, by omega, rfl⟩) (sq_fr_fi _ _ ⟨0, by omega, rfl⟩)) ⟨g0, g1, g2, g3, g4, g5, ⟨sj_fi_wFi _ _ _ _, by omega, fun j hj => ?_⟩, g9⟩ (fun j hj => ?_)
  · refine (congrFun (sj_ia_sIa S (sq_E g 2) _) j).trans ?_
    by_cases e : j = n
    · rw [e, sj_upd_self, sj_upd_self]
    · rw [sj_upd_ne _ _ e, sj_upd_ne _ _ e]
      exact g8 j (by omega)
  · by_cases e : j = n
    · rw [e, sj_upd_self]
      obtain ⟨h1, h2⟩ := sj_wi_iff.mp hc
      obtain ⟨t, t1, t2, t3⟩ := sj_nIab (a := 33) (z := 126) (by omega) h1 h2 (by omega)
      exact ⟨t, t1, t2, t3⟩
    · rw [sj_upd_ne _ _ e]
      exact hW.2.2.2.2.2 j (by omega)
theorem sq_W_emp {S : sj_St} {g : Nat → Nat} {m : Nat → Int32} {hs : Bool} {ms : Nat → Int32} {p q : Nat} {Q : Nat → Nat → Int32} {n : Nat} {B : Nat → Int32} (hW : sq_W S g m hs ms p q Q n B) : sq_W (sj_wFi S (g 128) 1 0) g m hs ms p q Q 0 B ∧ sq_fr (sq_Cl g) S (sj_wFi S (g 128) 1 0) := by
  obtain ⟨g0, g1, g2, g3, g4, g5, ⟨g6, g7, g8⟩, g9⟩ := hW.2.2.2.2.1
  exact sq_W_text hW (sq_fr_fi _ _ ⟨0, by omega, rfl⟩) ⟨g0, g1, g2, g3, g4, g5, ⟨sj_fi_wFi _ _ _ _, by omega, fun j hj => by omega⟩, g9⟩ (fun j hj => by omega)
set_option maxRecDepth 100000 in
set_option maxHeartbeats 150000 in
theorem ct_X6_append (l : Launch) {S : sj_St} {g : Nat → Nat} {m : Nat → Int32} {hs : Bool} {ms : Nat → Int32} {p q : Nat} {Q : Nat → Nat → Int32} {n : Nat} {B : Nat → Int32} (hW : sq_W S g m hs ms p q Q n B) (hI : sj_inv m) (c : Int32) (hc : sj_wi c 33 126 = true) (hn60 : n < 60) : sj_Ctr l mX6_append [.ref (g 141), .int c] S (fun r T => r = some (.int (nI (n + 1))) ∧ sq_fr (sq_Cl g) S T ∧ sq_W T g m hs ms p q Q (n + 1) (upd B n c)) := by
  refine sj_start ([some (.ref (g 141)), some (.int c)]) (by decide +kernel) rfl rfl (fun X hX C hR => ?_)
  subst hX
  obtain ⟨⟨⟨kd_x, rf_x_0, rf_x_1, rf_x_2, rf_x_3⟩, hTl, hHl, hinj⟩, ⟨hT, h4, hT1⟩, hK3, ⟨hH1, hp6, hH2, hq6, hQ⟩, hX, hB⟩ := id hW
  have kd_t := hT.1.1
  have rf_t_4 := hT.1.2.2.2.2.1.1
  have rf_t_5 := hT.1.2.2.2.2.2.1.1
  have hol := hT.1.2.2.2.2.1.2
  have kd_o := hol.1
  have hset := hT.1.2.2.2.2.2.1.2
  have kd_se := hset.1
  have kd_tx := hX.1
  have kd_hi := hHl.1
  have h3 : sj_fi S (g 0) 3 = m 9 := hT.2.1.1
  have h6 : sj_fi S (g 0) 6 = m 12 := hT.2.1.2.1
  have h7 : sj_fi S (g 0) 7 = m 13 := hT.2.1.2.2
  have hRo := hT.2.2.2.2.1
  obtain ⟨h9, hn8⟩ := id hI.1
  have hN28 := hI.2.1.2
  have hv := sj_inv_oav hI
  obtain ⟨hc1, hc2⟩ := sj_wi_iff.mp hc
  refine sj_iload_n C 1 rfl dX6_append_0 rfl rfl ?_
  refine sj_bipush C (33) 3 rfl dX6_append_1 (by decide) ?_
  refine sj_icmp_lt C 12 6 rfl rfl dX6_append_3 (fun c_3 => ?_) (fun c_3 => ?_)
  · exact absurd hc1 (Int32.not_le.mpr c_3)
  · refine sj_iload_n C 7 rfl dX6_append_6 rfl rfl ?_
    refine sj_bipush C (126) 9 rfl dX6_append_7 (by decide) ?_
    refine sj_icmp_le C 22 12 rfl rfl dX6_append_9 (fun c_9 => ?_) (fun c_9 => ?_)
    · refine sj_aload_n C 23 rfl dX6_append_22 rfl rfl ?_
      refine sj_getr C 26 rfl fd_X6_10 dX6_append_23 kd_x rf_x_0 ?_
      refine sj_getI C 29 rfl fd_X6_155 dX6_append_26 kd_tx ?_
      rw [hX.2.2.2.2.2.2.1.1]
      refine sj_bipush C (60) 31 rfl dX6_append_29 (by decide) ?_
      refine sj_icmp_lt C 44 34 rfl rfl dX6_append_31 (fun c_31 => ?_) (fun c_31 => ?_)
      · refine sj_aload_n C 45 rfl dX6_append_44 rfl rfl ?_
        refine sj_getr C 48 rfl fd_X6_10 dX6_append_45 kd_x rf_x_0 ?_
        refine sj_iload_n C 49 rfl dX6_append_48 rfl rfl ?_
        refine sj_callVd C 52 rfl dX6_append_49 cv_X6_160 rfl (ct_X5_add _ hX hn60 c) rfl rfl rfl ⟨_, _, kd_tx, rfl, rfl, by decide⟩ ⟨rfl, rfl⟩ ?_
        refine sj_iret C hR rfl rfl dX6_append_52 ?_
        obtain ⟨a1, a2⟩ := sq_W_app hW hn60 hc
        exact ⟨rfl, a2, a1⟩
      · exact absurd (show nI n < nI 60 from nI_lt hn60 (by omega)) c_31
    · exact absurd hc2 c_9
set_option maxRecDepth 100000 in
set_option maxHeartbeats 150000 in
theorem ct_X6_clearBuffer (l : Launch) {S : sj_St} {g : Nat → Nat} {m : Nat → Int32} {hs : Bool} {ms : Nat → Int32} {p q : Nat} {Q : Nat → Nat → Int32} {n : Nat} {B : Nat → Int32} (hW : sq_W S g m hs ms p q Q n B) (hI : sj_inv m) : sj_Ctr l mX6_clearBuffer [.ref (g 141)] S (fun r T => r = some (.int (nI n)) ∧ sq_fr (sq_Cl g) S T ∧ sq_W T g m hs ms p q Q 0 B) := by
  refine sj_start ([some (.ref (g 141)), none]) (by decide +kernel) rfl rfl (fun X hX C hR => ?_)
  subst hX
  obtain ⟨⟨⟨kd_x, rf_x_0, rf_x_1, rf_x_2, rf_x_3⟩, hTl, hHl, hinj⟩, ⟨hT, h4, hT1⟩, hK3, ⟨hH1, hp6, hH2, hq6, hQ⟩, hX, hB⟩ := id hW
  have kd_t := hT.1.1
  have rf_t_4 := hT.1.2.2.2.2.1.1
  have rf_t_5 := hT.1.2.2.2.2.2.1.1
  have hol := hT.1.2.2.2.2.1.2
  have kd_o := hol.1
  have hset := hT.1.2.2.2.2.2.1.2
  have kd_se := hset.1
  have kd_tx := hX.1
  have kd_hi := hHl.1
  have h3 : sj_fi S (g 0) 3 = m 9 := hT.2.1.1
  have h6 : sj_fi S (g 0) 6 = m 12 := hT.2.1.2.1
  have h7 : sj_fi S (g 0) 7 = m 13 := hT.2.1.2.2
  have hRo := hT.2.2.2.2.1
  obtain ⟨h9, hn8⟩ := id hI.1
  have hN28 := hI.2.1.2
  have hv := sj_inv_oav hI
  refine sj_aload_n C 1 rfl dX6_clearBuffer_0 rfl rfl ?_
  refine sj_getr C 4 rfl fd_X6_10 dX6_clearBuffer_1 kd_x rf_x_0 ?_
  refine sj_getI C 7 rfl fd_X6_155 dX6_clearBuffer_4 kd_tx ?_
  rw [hX.2.2.2.2.2.2.1.1]
  refine sj_istore_n_1 C 8 rfl dX6_clearBuffer_7 rfl rfl ?_
  refine sj_aload_n C 9 rfl dX6_clearBuffer_8 rfl rfl ?_
  refine sj_getr C 12 rfl fd_X6_10 dX6_clearBuffer_9 kd_x rf_x_0 ?_
  refine sj_callVv C 15 rfl dX6_clearBuffer_12 cv_X6_80 rfl (ct_X5_empty _ kd_tx) rfl rfl rfl ⟨_, _, kd_tx, rfl, rfl, by decide⟩ ⟨rfl, rfl⟩ ?_
  refine sj_iload_n C 16 rfl dX6_clearBuffer_15 rfl rfl ?_
  refine sj_iret C hR rfl rfl dX6_clearBuffer_16 ?_
  obtain ⟨a1, a2⟩ := sq_W_emp hW
  exact ⟨rfl, a2, a1⟩
/-- the place of the first error, as the reference tells it -/
def sq_fe (B : Nat → Int32) (n : Nat) (works : Bool) : Nat := if works then (sj_wkt B n 0 0 0).2.1 else (sj_sht B n (fun _ => 0)).2.1
theorem sq_rs_place {B : Nat → Int32} {n : Nat} (hB : sq_cd B n) (hn : n ≤ 60) (f : Nat → Int32) : (sq_rs B n f).1.1 = sq_fe B n false := (sq_rs_eq hB hn (fun _ => 0) f).1
set_option maxRecDepth 100000 in
set_option maxHeartbeats 250000 in
theorem ct_X6_recant (l : Launch) {S : sj_St} {g : Nat → Nat} {m : Nat → Int32} {hs : Bool} {ms : Nat → Int32} {p q : Nat} {Q : Nat → Nat → Int32} {n : Nat} {B : Nat → Int32} (hW : sq_W S g m hs ms p q Q n B) (hI : sj_inv m) (v e : Int32) (hsv : sj_isn m v = true) (hsw : sj_isn m e = true) : sj_Ctr l mX6_recant [.ref (g 141), .int v, .int e] S (fun r T => r = some (.int (if sj_fo m (sj_tn v) (sj_tn e) = -1 then 0 else 1)) ∧ sq_fr (sq_Cl g) S T ∧ sq_W T g ((if sj_fo m (sj_tn v) (sj_tn e) = -1 then m else sj_dO m (sj_tn (sj_fo m (sj_tn v) (sj_tn e))))) hs ms (sq_n6 p) (sq_q6 q) (sq_Qs m Q) n B) := by
  refine sj_start ([some (.ref (g 141)), some (.int v), some (.int e), none]) (by decide +kernel) rfl rfl (fun X hX C hR => ?_)
  subst hX
  obtain ⟨⟨⟨kd_x, rf_x_0, rf_x_1, rf_x_2, rf_x_3⟩, hTl, hHl, hinj⟩, ⟨hT, h4, hT1⟩, hK3, ⟨hH1, hp6, hH2, hq6, hQ⟩, hX, hB⟩ := id hW
  have kd_t := hT.1.1
  have rf_t_4 := hT.1.2.2.2.2.1.1
  have rf_t_5 := hT.1.2.2.2.2.2.1.1
  have hol := hT.1.2.2.2.2.1.2
  have kd_o := hol.1
  have hset := hT.1.2.2.2.2.2.1.2
  have kd_se := hset.1
  have kd_tx := hX.1
  have kd_hi := hHl.1
  have h3 : sj_fi S (g 0) 3 = m 9 := hT.2.1.1
  have h6 : sj_fi S (g 0) 6 = m 12 := hT.2.1.2.1
  have h7 : sj_fi S (g 0) 7 = m 13 := hT.2.1.2.2
  have hRo := hT.2.2.2.2.1
  obtain ⟨h9, hn8⟩ := id hI.1
  have hN28 := hI.2.1.2
  have hv := sj_inv_oav hI
  have hi0 := hsv
  have he0 := hsw
  obtain ⟨i, hi, rfl⟩ := sj_isn_n h9 hn8 hsv
  have ei : sj_tn (nI i) = i := sj_tn_nI (by omega)
  obtain ⟨o, ho, rfl⟩ := sj_isn_n h9 hn8 hsw
  have eo : sj_tn (nI o) = o := sj_tn_nI (by omega)
  refine sj_aload_n C 1 rfl dX6_recant_0 rfl rfl ?_
  refine sj_iload_n C 2 rfl dX6_recant_1 rfl rfl ?_
  refine sj_iload_n C 3 rfl dX6_recant_2 rfl rfl ?_
  refine sj_callVd C 6 rfl dX6_recant_3 cv_X6_121 rfl (ct_X6_areThere _ hW hI _ _) rfl rfl rfl ⟨_, _, kd_x, rfl, rfl, by decide⟩ ⟨rfl, rfl⟩ ?_
  refine sj_if_ne C 19 9 rfl rfl dX6_recant_6 (fun c_6 => ?_) (fun c_6 => ?_)
  · refine sj_aload_n C 20 rfl dX6_recant_19 rfl rfl ?_
    refine sj_getr C 23 rfl fd_X6_26 dX6_recant_20 kd_x rf_x_2 ?_
    refine sj_aload_n C 24 rfl dX6_recant_23 rfl rfl ?_
    refine sj_getr C 27 rfl fd_X6_19 dX6_recant_24 kd_x rf_x_1 ?_
    refine sj_callVv C 30 rfl dX6_recant_27 cv_X6_57 rfl (ct_X0_save _ hHl (fun j hj => hTl (2 + j) (by omega)) (hTl 0 (by omega)) hp6 hq6 hH1 hH2 (hK3 0 (by omega)) (fun j hj => sq_D_tp hinj (by omega) (by omega) (by omega)) (fun j i hj hi => sq_inj hinj (i := 139) (j := 16 * (2 + j) + i) (by omega))) rfl rfl rfl ⟨_, _, kd_hi, rfl, rfl, by decide⟩ ⟨rfl, rfl⟩ ?_
    obtain ⟨hW2, hf2⟩ := sq_W_save hW hI
    generalize sq_svS S (g 139) (fun j => sq_D g (2 + j)) (sq_D g 0) p q = S2 at hW2 hf2 ⊢
    obtain ⟨⟨⟨kd_x, rf_x_0, rf_x_1, rf_x_2, rf_x_3⟩, hTl, hHl, hinj⟩, ⟨hT, h4, hT1⟩, hK3, ⟨hH1, hp6, hH2, hq6, hQ⟩, hX, hB⟩ := id hW2
    have kd_t := hT.1.1
    have rf_t_4 := hT.1.2.2.2.2.1.1
    have rf_t_5 := hT.1.2.2.2.2.2.1.1
    have hol := hT.1.2.2.2.2.1.2
    have kd_o := hol.1
    have hset := hT.1.2.2.2.2.2.1.2
    have kd_se := hset.1
    have kd_tx := hX.1
    have kd_hi := hHl.1
    have h3 : sj_fi S2 (g 0) 3 = m 9 := hT.2.1.1
    have h6 : sj_fi S2 (g 0) 6 = m 12 := hT.2.1.2.1
    have h7 : sj_fi S2 (g 0) 7 = m 13 := hT.2.1.2.2
    have hRo := hT.2.2.2.2.1
    obtain ⟨h9, hn8⟩ := id hI.1
    have hN28 := hI.2.1.2
    have hv := sj_inv_oav hI
    refine sj_aload_n C 31 rfl dX6_recant_30 rfl rfl ?_
    refine sj_getr C 34 rfl fd_X6_19 dX6_recant_31 kd_x rf_x_1 ?_
    refine sj_getr C 37 rfl fd_X6_131 dX6_recant_34 kd_t rf_t_4 ?_
    refine sj_iload_n C 38 rfl dX6_recant_37 rfl rfl ?_
    refine sj_iload_n C 39 rfl dX6_recant_38 rfl rfl ?_
    refine sj_callVd C 42 rfl dX6_recant_39 cv_X6_145 rfl (sq_c_placeOf _ hol hI hRo (i := i) (e := o) (by omega) (by omega)) rfl rfl rfl ⟨_, _, kd_o, rfl, rfl, by decide⟩ ⟨rfl, rfl⟩ ?_
    refine sj_istore_n_3 C 43 rfl dX6_recant_42 rfl rfl ?_
    refine sj_iload_n C 44 rfl dX6_recant_43 rfl rfl ?_
    refine sj_iconstv C (-1) 45 rfl dX6_recant_44 rfl ?_
    refine sj_icmp_ne C 50 48 rfl rfl dX6_recant_45 (fun c_45 => ?_) (fun c_45 => ?_)
    · obtain ⟨k, -, hk, -, ek⟩ := (sq_fst_in (p := sj_fp m i o) (sj_tn (m 10)) 0).resolve_left c_45
      have ek9 : sj_fo m i o = nI k := ek
      have hk : k < sj_tn (m 10) := by omega
      rw [ek9]
      refine sj_aload_n C 51 rfl dX6_recant_50 rfl rfl ?_
      refine sj_getr C 54 rfl fd_X6_19 dX6_recant_51 kd_x rf_x_1 ?_
      refine sj_getr C 57 rfl fd_X6_131 dX6_recant_54 kd_t rf_t_4 ?_
      refine sj_iload_n C 58 rfl dX6_recant_57 rfl rfl ?_
      refine sj_callVv C 61 rfl dX6_recant_58 cv_X6_149 rfl (sq_c_removeAt _ hol (n := sj_tn (m 10)) (hRo.1.trans hI.2.1.1) hN28 k hk) rfl rfl rfl ⟨_, _, kd_o, rfl, rfl, by decide⟩ ⟨rfl, rfl⟩ ?_
      refine sj_iconstv C (1) 62 rfl dX6_recant_61 rfl ?_
      refine sj_iret C hR rfl rfl dX6_recant_62 ?_
      rw [ei, eo, if_neg c_45, if_neg c_45, ek9, show sj_tn (nI k) = k from sj_tn_nI (by omega)]
      exact ⟨rfl, sq_fr_tr hf2 (sq_fr_up (sq_fr_os _ (sq_Pi (sq_D g 0) (i := 5)) (sq_Pi (sq_D g 0) (i := 5 + 2)) (sq_Pi (sq_D g 0) (i := 5 + 4)) (sq_Pi (sq_D g 0) (i := 5 + 6)) (sq_Pi (sq_D g 0) (i := 5 + 8))) (sq_P_C (by omega))), sq_W_main hW2 (sq_fr_os _ (sq_Pi (sq_D g 0) (i := 5)) (sq_Pi (sq_D g 0) (i := 5 + 2)) (sq_Pi (sq_D g 0) (i := 5 + 4)) (sq_Pi (sq_D g 0) (i := 5 + 6)) (sq_Pi (sq_D g 0) (i := 5 + 8))) (sq_T_dO hT (sq_P_F (by omega)) hI hk) (sq_k3_os (hK3 0 (by omega)))⟩
    · refine sj_iconstv C (0) 49 rfl dX6_recant_48 rfl ?_
      refine sj_iret C hR rfl rfl dX6_recant_49 ?_
      rw [ei, eo, if_pos c_45, if_pos c_45]
      exact ⟨rfl, hf2, hW2⟩
  · exact absurd c_6 (by rw [hi0, he0]; decide)
/-- an oath sworn -/
def sq_ad (S : sj_St) (g : Nat → Nat) (m : Nat → Int32) (i e : Nat) (like : Bool) : sj_St := sq_os S (sq_D g 0 5) (fun i => sq_D g 0 (5 + i)) (nI (sj_tn (m 10) + 1), sj_fi S (sq_D g 0 5) 1 + 1, upd (sj_ia S (sq_D g 0 7)) (sj_tn (m 10)) (nI i), upd (sj_ia S (sq_D g 0 9)) (sj_tn (m 10)) (nI e), upd (sj_ia S (sq_D g 0 11)) (sj_tn (m 10)) (sj_bi like), sj_cp 8 (sq_hn (upd (sj_ia S (sq_D g 0 7)) (sj_tn (m 10)) (nI i)) (upd (sj_ia S (sq_D g 0 9)) (sj_tn (m 10)) (nI e)) (upd (sj_ia S (sq_D g 0 11)) (sj_tn (m 10)) (sj_bi like)) (sj_tn (m 10) + 1)) (sj_ia S (sq_D g 0 13)))
theorem sq_W_add {S : sj_St} {g : Nat → Nat} {m : Nat → Int32} {hs : Bool} {ms : Nat → Int32} {p q : Nat} {Q : Nat → Nat → Int32} {n : Nat} {B : Nat → Int32} (hW : sq_W S g m hs ms p q Q n B) (hI : sj_inv m) {i e : Nat} {like : Bool} (h28 : sj_tn (m 10) < 28) (hIM : sj_inv (sj_sw m i e like)) : sq_W (sq_ad S g m i e like) g (sj_sw m i e like) hs ms p q Q n B ∧ sq_fr (sq_Cl g) S (sq_ad S g m i e like) := by
  have f : sq_fr (sq_P (sq_D g 0)) S (sq_ad S g m i e like) := sq_fr_os _ (sq_Pi (sq_D g 0) (i := 5)) (sq_Pi (sq_D g 0) (i := 5 + 2)) (sq_Pi (sq_D g 0) (i := 5 + 4)) (sq_Pi (sq_D g 0) (i := 5 + 6)) (sq_Pi (sq_D g 0) (i := 5 + 8))
  exact ⟨sq_W_main hW f (sq_T_sw hW.2.1.1 (sq_P_F (by omega)) hI h28 hIM) (sq_k3_os (hW.2.2.1 0 (by omega))), sq_fr_up f (sq_P_C (by omega))⟩
theorem sq_c_ad (l : Launch) {S : sj_St} {g : Nat → Nat} {m : Nat → Int32} {hs : Bool} {ms : Nat → Int32} {p q : Nat} {Q : Nat → Nat → Int32} {n : Nat} {B : Nat → Int32} (hW : sq_W S g m hs ms p q Q n B) (hI : sj_inv m) (i e : Nat) (like : Bool) (h28 : sj_tn (m 10) < 28) : sj_Ctr l mX1_add [.ref (sq_D g 0 5), .int (nI i), .int (nI e), .int (sj_bi like)] S (sj_eq none (sq_ad S g m i e like)) := sq_c_add l hW.2.1.1.1.2.2.2.2.1.2 (n := sj_tn (m 10)) (hW.2.1.1.2.2.2.2.1.1.trans hI.2.1.1) hI.2.1.2 h28 (nI i) (nI e) like
set_option maxRecDepth 100000 in
set_option maxHeartbeats 250000 in
theorem ct_X6_swear (l : Launch) {S : sj_St} {g : Nat → Nat} {m : Nat → Int32} {hs : Bool} {ms : Nat → Int32} {p q : Nat} {Q : Nat → Nat → Int32} {n : Nat} {B : Nat → Int32} (hW : sq_W S g m hs ms p q Q n B) (hI : sj_inv m) (hu : sj_uc m) (v e : Int32) (hsv : sj_isn m v = true) (hsw : sj_isn m e = true) (like : Bool) (hw0 : sj_why m (sj_tn v) (sj_tn e) like = 0) : sj_Ctr l mX6_swear [.ref (g 141), .int v, .int e, .int (sj_bi like)] S (fun r T => r = some (.int (sj_hds (sj_sw m (sj_tn v) (sj_tn e) like))) ∧ sq_fr (sq_Cl g) S T ∧ sq_W T g (sj_sw m (sj_tn v) (sj_tn e) like) hs ms (sq_n6 p) (sq_q6 q) (sq_Qs m Q) n B) := by
  refine sj_start ([some (.ref (g 141)), some (.int v), some (.int e), some (.int (sj_bi like))]) (by decide +kernel) rfl rfl (fun X hX C hR => ?_)
  subst hX
  obtain ⟨⟨⟨kd_x, rf_x_0, rf_x_1, rf_x_2, rf_x_3⟩, hTl, hHl, hinj⟩, ⟨hT, h4, hT1⟩, hK3, ⟨hH1, hp6, hH2, hq6, hQ⟩, hX, hB⟩ := id hW
  have kd_t := hT.1.1
  have rf_t_4 := hT.1.2.2.2.2.1.1
  have rf_t_5 := hT.1.2.2.2.2.2.1.1
  have hol := hT.1.2.2.2.2.1.2
  have kd_o := hol.1
  have hset := hT.1.2.2.2.2.2.1.2
  have kd_se := hset.1
  have kd_tx := hX.1
  have kd_hi := hHl.1
  have h3 : sj_fi S (g 0) 3 = m 9 := hT.2.1.1
  have h6 : sj_fi S (g 0) 6 = m 12 := hT.2.1.2.1
  have h7 : sj_fi S (g 0) 7 = m 13 := hT.2.1.2.2
  have hRo := hT.2.2.2.2.1
  obtain ⟨h9, hn8⟩ := id hI.1
  have hN28 := hI.2.1.2
  have hv := sj_inv_oav hI
  have hi0 := hsv
  have he0 := hsw
  obtain ⟨i, hi, rfl⟩ := sj_isn_n h9 hn8 hsv
  have ei : sj_tn (nI i) = i := sj_tn_nI (by omega)
  obtain ⟨o, ho, rfl⟩ := sj_isn_n h9 hn8 hsw
  have eo : sj_tn (nI o) = o := sj_tn_nI (by omega)
  rw [ei, eo] at hw0
  have hIM := sj_inv_sw hI hi ho hw0
  have h28 := sj_sw_28 hI hi ho hw0
  refine sj_aload_n C 1 rfl dX6_swear_0 rfl rfl ?_
  refine sj_iload_n C 2 rfl dX6_swear_1 rfl rfl ?_
  refine sj_iload_n C 3 rfl dX6_swear_2 rfl rfl ?_
  refine sj_callVd C 6 rfl dX6_swear_3 cv_X6_121 rfl (ct_X6_areThere _ hW hI _ _) rfl rfl rfl ⟨_, _, kd_x, rfl, rfl, by decide⟩ ⟨rfl, rfl⟩ ?_
  refine sj_if_ne C 19 9 rfl rfl dX6_swear_6 (fun c_6 => ?_) (fun c_6 => ?_)
  · refine sj_aload_n C 20 rfl dX6_swear_19 rfl rfl ?_
    refine sj_getr C 23 rfl fd_X6_19 dX6_swear_20 kd_x rf_x_1 ?_
    refine sj_iload_n C 24 rfl dX6_swear_23 rfl rfl ?_
    refine sj_iload_n C 25 rfl dX6_swear_24 rfl rfl ?_
    refine sj_iload_n C 26 rfl dX6_swear_25 rfl rfl ?_
    refine sj_callVd C 29 rfl dX6_swear_26 cv_X6_125 rfl (ct_X4_reasonAgainst _ hT hI hu hi ho like) rfl rfl rfl ⟨_, _, kd_t, rfl, rfl, by decide⟩ ⟨rfl, rfl⟩ ?_
    refine sj_if_eq C 42 32 rfl rfl dX6_swear_29 (fun c_29 => ?_) (fun c_29 => ?_)
    · refine sj_aload_n C 43 rfl dX6_swear_42 rfl rfl ?_
      refine sj_getr C 46 rfl fd_X6_26 dX6_swear_43 kd_x rf_x_2 ?_
      refine sj_aload_n C 47 rfl dX6_swear_46 rfl rfl ?_
      refine sj_getr C 50 rfl fd_X6_19 dX6_swear_47 kd_x rf_x_1 ?_
      refine sj_callVv C 53 rfl dX6_swear_50 cv_X6_57 rfl (ct_X0_save _ hHl (fun j hj => hTl (2 + j) (by omega)) (hTl 0 (by omega)) hp6 hq6 hH1 hH2 (hK3 0 (by omega)) (fun j hj => sq_D_tp hinj (by omega) (by omega) (by omega)) (fun j i hj hi => sq_inj hinj (i := 139) (j := 16 * (2 + j) + i) (by omega))) rfl rfl rfl ⟨_, _, kd_hi, rfl, rfl, by decide⟩ ⟨rfl, rfl⟩ ?_
      obtain ⟨hW2, hf2⟩ := sq_W_save hW hI
      generalize sq_svS S (g 139) (fun j => sq_D g (2 + j)) (sq_D g 0) p q = S2 at hW2 hf2 ⊢
      obtain ⟨⟨⟨kd_x, rf_x_0, rf_x_1, rf_x_2, rf_x_3⟩, hTl, hHl, hinj⟩, ⟨hT, h4, hT1⟩, hK3, ⟨hH1, hp6, hH2, hq6, hQ⟩, hX, hB⟩ := id hW2
      have kd_t := hT.1.1
      have rf_t_4 := hT.1.2.2.2.2.1.1
      have rf_t_5 := hT.1.2.2.2.2.2.1.1
      have hol := hT.1.2.2.2.2.1.2
      have kd_o := hol.1
      have hset := hT.1.2.2.2.2.2.1.2
      have kd_se := hset.1
      have kd_tx := hX.1
      have kd_hi := hHl.1
      have h3 : sj_fi S2 (g 0) 3 = m 9 := hT.2.1.1
      have h6 : sj_fi S2 (g 0) 6 = m 12 := hT.2.1.2.1
      have h7 : sj_fi S2 (g 0) 7 = m 13 := hT.2.1.2.2
      have hRo := hT.2.2.2.2.1
      obtain ⟨h9, hn8⟩ := id hI.1
      have hN28 := hI.2.1.2
      have hv := sj_inv_oav hI
      refine sj_aload_n C 54 rfl dX6_swear_53 rfl rfl ?_
      refine sj_getr C 57 rfl fd_X6_19 dX6_swear_54 kd_x rf_x_1 ?_
      refine sj_getr C 60 rfl fd_X6_131 dX6_swear_57 kd_t rf_t_4 ?_
      refine sj_iload_n C 61 rfl dX6_swear_60 rfl rfl ?_
      refine sj_iload_n C 62 rfl dX6_swear_61 rfl rfl ?_
      refine sj_iload_n C 63 rfl dX6_swear_62 rfl rfl ?_
      refine sj_callVv C 66 rfl dX6_swear_63 cv_X6_135 rfl (sq_c_ad _ hW2 hI i o like h28) rfl rfl rfl ⟨_, _, kd_o, rfl, rfl, by decide⟩ ⟨rfl, rfl⟩ ?_
      obtain ⟨hW3, hf3⟩ := sq_W_add hW2 hI (i := i) (e := o) (like := like) h28 hIM
      generalize sq_ad S2 g m i o like = S3 at hW3 hf3 ⊢
      obtain ⟨⟨⟨kd_x, rf_x_0, rf_x_1, rf_x_2, rf_x_3⟩, -, -, -⟩, ⟨hT, -, -⟩, -⟩ := id hW3
      have kd_t := hT.1.1
      refine sj_aload_n C 67 rfl dX6_swear_66 rfl rfl ?_
      refine sj_getr C 70 rfl fd_X6_19 dX6_swear_67 kd_x rf_x_1 ?_
      refine sj_callVd C 73 rfl dX6_swear_70 cv_X6_141 rfl (ct_X4_hands _ hT hIM) rfl rfl rfl ⟨_, _, kd_t, rfl, rfl, by decide⟩ ⟨rfl, rfl⟩ ?_
      refine sj_iret C hR rfl rfl dX6_swear_73 ?_
      rw [ei, eo]
      exact ⟨rfl, sq_fr_tr hf2 hf3, hW3⟩
    · exact absurd hw0 c_29
  · exact absurd c_6 (by rw [hi0, he0]; decide)
