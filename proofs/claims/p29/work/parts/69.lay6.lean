/-! THE CLASS: a sheet is laid -/
/-- what was read of a sheet, in the text's cells -/
def sq_rk (T : sj_St) (g : Nat → Nat) (k : Nat) (f : Nat → Int32) : Prop := sj_fi T (g 128) 5 = nI k ∧ sj_ia T (sq_E g 4) = f
theorem sq_rk_P {P : Nat → Prop} {S T : sj_St} {g : Nat → Nat} {k : Nat} {f : Nat → Int32} (h : sq_fr P S T) (n4 : ¬ P (sq_E g 4)) (n0 : ¬ P (g 128)) (hr : sq_rk S g k f) : sq_rk T g k f := ⟨(congrFun (h.2.2.2.1 _ n0).1 5).trans hr.1, (h.2.2.2.1 _ n4).2.1.trans hr.2⟩
theorem sq_rk_sv {S : sj_St} {g : Nat → Nat} {k : Nat} {f : Nat → Int32} (hi : ∀ i j, i < 160 → j < 160 → g i = g j → i = j) {p q : Nat} (hr : sq_rk S g k f) : sq_rk (sq_svS S (g 139) (fun j => sq_D g (2 + j)) (sq_D g 0) p q) g k f := by
  have hh : ∀ (S : sj_St) (j : Nat) (v : Int32), sq_rk S g k f → sq_rk (sj_wFi S (g 139) j v) g k f := fun S j v hr => sq_rk_P (sq_Hfr j v) (sq_inj hi (i := 128 + 4) (j := 139) (by omega)) (sq_inj hi (i := 128) (j := 139) (by omega)) hr
  have h6 := sq_n6_lt p
  have h1 := sq_rk_P (sq_fr_to (sj_wFi S (g 139) 1 (nI (sq_n6 p))) (sq_D g (2 + sq_n6 p)) (sq_D g 0)) (sq_P_no hi (k := 128 + 4) (by omega) (by omega) (by omega)) (sq_P_no hi (k := 128) (by omega) (by omega) (by omega)) (hh S 1 (nI (sq_n6 p)) hr)
  unfold sq_svS
  by_cases h6 : q < 6
  · rw [if_pos h6]
    exact hh _ 2 _ h1
  · rw [if_neg h6]
    exact h1
theorem sq_rk_xp {S T : sj_St} {g : Nat → Nat} {k n : Nat} {f B : Nat → Int32} (h : sq_xp (fun _ => False) S T) (hX : sq_xl S (g 128) (sq_E g) n B) (hr : sq_rk S g k f) : sq_rk T g k f := ⟨(sq_x_fi h hX.1 (fun h => h) 5).trans hr.1, (sq_x_ia h hX.2.2.1.2.2.2.1 (fun h => h)).trans hr.2⟩
/-- the new sheet stands beside all that was there -/
theorem sq_lay_ok {S2 S4 : sj_St} {g : Nat → Nat} {m : Nat → Int32} {hs : Bool} {ms : Nat → Int32} {p q : Nat} {Q : Nat → Nat → Int32} {n : Nat} {B : Nat → Int32} (hW : sq_W S2 g m hs ms p q Q n B) (hgk : ∀ i, i < 160 → ∃ c, sj_kd S2 (g i) = some c) {a rm cm rn cn k : Nat} {f fc : Nat → Int32} (hk : 1 ≤ k ∧ k ≤ 8) (hfc : ∀ j, j < 5 * k → fc j = f j) (fra : sj_kd S2 a = none) (fcm : sj_kd (sj_nO S2 a 3) cm = none) (fcn : sj_kd (sj_nO S2 a 3) cn = none) (ne1 : cn ≠ cm) (hsh : sq_sh S4 a rn cn rm cm k) (icm : sj_ia S4 cm = fun _ => 0) (icn : sj_ia S4 cn = fc) (x4 : sq_xp (fun b => b = a) (sj_nO S2 a 3) S4) {M : Nat → Int32} {ns : Nat} (hM : sj_shw M ns) (hMn : sj_ns M ns = k) (hMs : ∀ i w, i < k → w < 5 → sj_os M ns i w = f (5 * i + w)) : sq_W (sj_sIa S4 cm (sj_mr6 (sj_ia S4 cn) k (sj_ia S4 cm) 6)) g m hs ms p q Q n B ∧ sq_xp (fun _ => False) S2 (sj_sIa S4 cm (sj_mr6 (sj_ia S4 cn) k (sj_ia S4 cm) 6)) ∧ sq_sm (sj_sIa S4 cm (sj_mr6 (sj_ia S4 cn) k (sj_ia S4 cm) 6)) (sq_F g) M ns a := by
  have fcm2 : sj_kd S2 cm = none := sq_fb (sq_xp_nO (P := fun _ => False) fra) fcm
  have fcn2 : sj_kd S2 cn = none := sq_fb (sq_xp_nO (P := fun _ => False) fra) fcn
  have y4 : sq_xp (fun _ => False) S2 S4 := sq_xp_new (sq_xp_nO fra) fra x4
  have y5 : sq_xp (fun _ => False) S2 (sj_sIa S4 cm (sj_mr6 (sj_ia S4 cn) k (sj_ia S4 cm) 6)) := sq_xp_new y4 fcm2 (sq_xp_fr (sq_fr_ia _ rfl))
  have hnF : ∀ b, sj_kd S2 b = none → ¬ sq_F g b := fun b hb ⟨i, hi, e⟩ => by
    obtain ⟨c, hc⟩ := hgk i hi
    rw [← e, hb] at hc
    cases hc
  refine ⟨sq_W_xp y5 hW, y5, rn, cn, rm, cm, ?_, ⟨hnF a fra, hnF cn fcn2, hnF cm fcm2⟩, fun i w hi hw => ?_, fun j hj => ?_⟩
  · rw [hMn]
    exact hsh
  · rw [hMn] at hi
    refine (congrFun (sj_up_ne (sj_ia S4) _ ne1) (5 * i + w)).trans ?_
    rw [icn, hfc _ (by omega), hMs i w hi hw]
  · refine (congrFun (sj_up_self (sj_ia S4) cm _) j).trans ?_
    rw [sj_mr6_at _ _ _ 6 hj, ← hMn]
    refine sj_mr_mk hM (fun i w hi hw => ?_) hj
    rw [hMn] at hi
    rw [icn, hfc _ (by omega), hMs i w hi hw]
theorem sq_k3_put {S : sj_St} {D : Nat → Nat} {k a : Nat} {f : Nat → Int32} {v : Int32} (hl : sq_tl S D) (ha : sj_kd S a = some 3) (h : sq_k3 S D) : sq_k3 (sj_wFi (sj_sIa (sj_sRa S (D 1) (va_up (sj_ra S (D 1)) k (some a))) (D 4) f) (D 0) 3 v) D := by
  intro j b hj hb
  have e : sj_ra (sj_wFi (sj_sIa (sj_sRa S (D 1) (va_up (sj_ra S (D 1)) k (some a))) (D 4) f) (D 0) 3 v) (D 1) = va_up (sj_ra S (D 1)) k (some a) := sj_up_self _ _ _
  rw [e] at hb
  by_cases hjk : j = k
  · rw [hjk, show va_up (sj_ra S (D 1)) k (some a) k = some a from if_pos rfl] at hb
    cases hb
    exact ha
  · rw [show va_up (sj_ra S (D 1)) k (some a) j = sj_ra S (D 1) j from if_neg hjk] at hb
    exact h j b hj hb
set_option maxRecDepth 100000 in
set_option maxHeartbeats 300000 in
theorem ct_X6_lay (l : Launch) {S : sj_St} {g : Nat → Nat} {m : Nat → Int32} {hs : Bool} {ms : Nat → Int32} {p q : Nat} {Q : Nat → Nat → Int32} {n : Nat} {B : Nat → Int32} (hW : sq_W S g m hs ms p q Q n B) (hI : sj_inv m) (hgk : ∀ i, i < 160 → ∃ c, sj_kd S (g i) = some c) (age : Int32) (ha : sj_wi age 0 99 = true) (h8 : sj_tn (m 9) < 8) {f0 : Nat → Int32} {R9 : Int32 × Nat × Nat × (Nat → Int32)} (hR9 : sj_sht B n f0 = R9) (hok : R9.1 = -1) : sj_Ctr l mX6_lay [.ref (g 141), .int age] S (fun r T => r = some (.int (nI (sj_tn (m 9)))) ∧ sq_xp (sq_Cl g) S T ∧ sq_W T g (sj_lay m (sj_tn (m 9)) age R9.2.2.1 R9.2.2.2) hs ms (sq_n6 p) (sq_q6 q) (sq_Qs m Q) 0 B) := by
  refine sj_start ([some (.ref (g 141)), some (.int age), none, none]) (by decide +kernel) rfl rfl (fun X hX C hR => ?_)
  subst hX
  obtain ⟨⟨⟨kd_x, rf_x_0, rf_x_1, rf_x_2, rf_x_3⟩, hTl, hHl, hinj⟩, ⟨hT, h4, hT1⟩, hK3, ⟨hH1, hp6, hH2, hq6, hQ⟩, hX, hB⟩ := id hW
  have kd_t := hT.1.1
  have rf_t_4 := hT.1.2.2.2.2.1.1
  have rf_t_5 := hT.1.2.2.2.2.2.1.1
  have hol := hT.1.2.2.2.2.1.2
  have kd_o := hol.1
  have hset := hT.1.2.2.2.2.2.1.2
  have kd_se := hset.1
  have kd_tx := hX.1
  have kd_hi := hHl.1
  have h3 : sj_fi S (g 0) 3 = m 9 := hT.2.1.1
  have h6 : sj_fi S (g 0) 6 = m 12 := hT.2.1.2.1
  have h7 : sj_fi S (g 0) 7 = m 13 := hT.2.1.2.2
  have hRo := hT.2.2.2.2.1
  obtain ⟨h9, hn8⟩ := id hI.1
  have hN28 := hI.2.1.2
  have hv := sj_inv_oav hI
  have rf_tx_4 := hX.2.2.1.1
  obtain ⟨ha1, ha2⟩ := sj_wi_iff.mp ha
  have hn60 := hX.2.2.2.2.2.2.1.2.1
  obtain ⟨-, -, hcm, hrs⟩ := sq_rs_eq hB hn60 f0 (sj_ia S (sq_E g 4))
  rw [hR9] at hcm hrs
  have hcomp := hcm.trans (decide_eq_true hok)
  obtain ⟨-, hkr, hfr⟩ := hrs hok
  have hin := sj_sht_in (B := B) hn60 (f := f0) (by rw [hR9]; exact hok)
  rw [hR9] at hin
  obtain ⟨hk9, hst9⟩ := hin
  have hIM := sj_inv_lay hI rfl h8 ha hk9 hst9
  have hshw := hIM.2.2.2.1 (sj_tn (m 9)) (by rw [sj_lay_9, sj_tn_nI (by omega)]; omega)
  refine sj_iload_n C 1 rfl dX6_lay_0 rfl rfl ?_
  refine sj_if_lt C 20 4 rfl rfl dX6_lay_1 (fun c_1 => ?_) (fun c_1 => ?_)
  · exact absurd ha1 (Int32.not_le.mpr c_1)
  · refine sj_iload_n C 5 rfl dX6_lay_4 rfl rfl ?_
    refine sj_bipush C (99) 7 rfl dX6_lay_5 (by decide) ?_
    refine sj_icmp_gt C 20 10 rfl rfl dX6_lay_7 (fun c_7 => ?_) (fun c_7 => ?_)
    · exact absurd ha2 (Int32.not_le.mpr c_7)
    · refine sj_aload_n C 11 rfl dX6_lay_10 rfl rfl ?_
      refine sj_getr C 14 rfl fd_X6_10 dX6_lay_11 kd_x rf_x_0 ?_
      refine sj_callVd C 17 rfl dX6_lay_14 cv_X6_37 rfl (ct_X5_readSheet _ hX) rfl rfl rfl ⟨_, _, kd_tx, rfl, rfl, by decide⟩ ⟨rfl, rfl⟩ ?_
      obtain ⟨hW1, hf1⟩ : sq_W (sq_xr S (g 128) (sq_E g) (sq_rs B n (sj_ia S (sq_E g 4))) 0 (sj_ia S (sq_E g 6)) (sj_ia S (sq_E g 8)) (sj_ia S (sq_E g 10))) g m hs ms p q Q n B ∧ sq_fr (sq_Cl g) S (sq_xr S (g 128) (sq_E g) (sq_rs B n (sj_ia S (sq_E g 4))) 0 (sj_ia S (sq_E g 6)) (sj_ia S (sq_E g 8)) (sj_ia S (sq_E g 10))) := sq_W_text hW (sq_fr_xs (s := (sq_rs B n (sj_ia S (sq_E g 4))).1) (k := (sq_rs B n (sj_ia S (sq_E g 4))).2.1) (q := 0) (fn := (sq_rs B n (sj_ia S (sq_E g 4))).2.2) (fk := sj_ia S (sq_E g 6)) (ff := sj_ia S (sq_E g 8)) (fs := sj_ia S (sq_E g 10)) rfl) (sq_xl_xs hX) hB
      have rk1 : sq_rk (sq_xr S (g 128) (sq_E g) (sq_rs B n (sj_ia S (sq_E g 4))) 0 (sj_ia S (sq_E g 6)) (sj_ia S (sq_E g 8)) (sj_ia S (sq_E g 10))) g (sq_rs B n (sj_ia S (sq_E g 4))).2.1 (sq_rs B n (sj_ia S (sq_E g 4))).2.2 := ⟨sq_x5, sq_a4 hX⟩
      rw [hcomp]
      generalize sq_xr S (g 128) (sq_E g) (sq_rs B n (sj_ia S (sq_E g 4))) 0 (sj_ia S (sq_E g 6)) (sj_ia S (sq_E g 8)) (sj_ia S (sq_E g 10)) = S1 at hW1 hf1 rk1 ⊢
      obtain ⟨⟨⟨kd_x, rf_x_0, rf_x_1, rf_x_2, rf_x_3⟩, hTl, hHl, hinj⟩, ⟨hT, h4, hT1⟩, hK3, ⟨hH1, hp6, hH2, hq6, hQ⟩, hX, hB⟩ := id hW1
      have kd_t := hT.1.1
      have rf_t_4 := hT.1.2.2.2.2.1.1
      have rf_t_5 := hT.1.2.2.2.2.2.1.1
      have hol := hT.1.2.2.2.2.1.2
      have kd_o := hol.1
      have hset := hT.1.2.2.2.2.2.1.2
      have kd_se := hset.1
      have kd_tx := hX.1
      have kd_hi := hHl.1
      have h3 : sj_fi S1 (g 0) 3 = m 9 := hT.2.1.1
      have h6 : sj_fi S1 (g 0) 6 = m 12 := hT.2.1.2.1
      have h7 : sj_fi S1 (g 0) 7 = m 13 := hT.2.1.2.2
      have hRo := hT.2.2.2.2.1
      obtain ⟨h9, hn8⟩ := id hI.1
      have hN28 := hI.2.1.2
      have hv := sj_inv_oav hI
      have rf_tx_4 := hX.2.2.1.1
      refine sj_if_ne C 30 20 rfl rfl dX6_lay_17 (fun c_17 => ?_) (fun c_17 => ?_)
      · refine sj_aload_n C 31 rfl dX6_lay_30 rfl rfl ?_
        refine sj_getr C 34 rfl fd_X6_19 dX6_lay_31 kd_x rf_x_1 ?_
        refine sj_getI C 37 rfl fd_X6_48 dX6_lay_34 kd_t ?_
        rw [h3]
        refine sj_bipush C (8) 39 rfl dX6_lay_37 (by decide) ?_
        refine sj_icmp_lt C 52 42 rfl rfl dX6_lay_39 (fun c_39 => ?_) (fun c_39 => ?_)
        · refine sj_aload_n C 53 rfl dX6_lay_52 rfl rfl ?_
          refine sj_getr C 56 rfl fd_X6_26 dX6_lay_53 kd_x rf_x_2 ?_
          refine sj_aload_n C 57 rfl dX6_lay_56 rfl rfl ?_
          refine sj_getr C 60 rfl fd_X6_19 dX6_lay_57 kd_x rf_x_1 ?_
          refine sj_callVv C 63 rfl dX6_lay_60 cv_X6_57 rfl (ct_X0_save _ hHl (fun j hj => hTl (2 + j) (by omega)) (hTl 0 (by omega)) hp6 hq6 hH1 hH2 (hK3 0 (by omega)) (fun j hj => sq_D_tp hinj (by omega) (by omega) (by omega)) (fun j i hj hi => sq_inj hinj (i := 139) (j := 16 * (2 + j) + i) (by omega))) rfl rfl rfl ⟨_, _, kd_hi, rfl, rfl, by decide⟩ ⟨rfl, rfl⟩ ?_
          obtain ⟨hW2, hf2⟩ := sq_W_save hW1 hI
          have rk2 := sq_rk_sv (p := p) (q := q) hinj rk1
          generalize sq_svS S1 (g 139) (fun j => sq_D g (2 + j)) (sq_D g 0) p q = S2 at hW2 hf2 rk2 ⊢
          have hgk2 : ∀ i, i < 160 → ∃ c, sj_kd S2 (g i) = some c := fun i hi => (hgk i hi).elim (fun c hc => ⟨c, sq_kd_fr hf2 (sq_kd_fr hf1 hc)⟩)
          obtain ⟨⟨⟨kd_x, rf_x_0, rf_x_1, rf_x_2, rf_x_3⟩, hTl, hHl, hinj⟩, ⟨hT, h4, hT1⟩, hK3, ⟨hH1, hp6, hH2, hq6, hQ⟩, hX, hB⟩ := id hW2
          have kd_t := hT.1.1
          have rf_t_4 := hT.1.2.2.2.2.1.1
          have rf_t_5 := hT.1.2.2.2.2.2.1.1
          have hol := hT.1.2.2.2.2.1.2
          have kd_o := hol.1
          have hset := hT.1.2.2.2.2.2.1.2
          have kd_se := hset.1
          have kd_tx := hX.1
          have kd_hi := hHl.1
          have h3 : sj_fi S2 (g 0) 3 = m 9 := hT.2.1.1
          have h6 : sj_fi S2 (g 0) 6 = m 12 := hT.2.1.2.1
          have h7 : sj_fi S2 (g 0) 7 = m 13 := hT.2.1.2.2
          have hRo := hT.2.2.2.2.1
          obtain ⟨h9, hn8⟩ := id hI.1
          have hN28 := hI.2.1.2
          have hv := sj_inv_oav hI
          have rf_tx_4 := hX.2.2.1.1
          refine sj_new C 66 rfl kk_X3 dX6_lay_63 (⟨wr_14 _ (List.mem_of_getElem? (i := 6) (by decide +kernel)), wr_2 _ (List.mem_of_getElem? (i := 21) (by decide +kernel)), wr_2 _ (List.mem_of_getElem? (i := 22) (by decide +kernel))⟩) rfl (fun a_63 fr_63 => ?_)
          have x3 : sq_xp (fun _ => False) S2 (sj_nO S2 a_63 3) := sq_xp_nO fr_63
          have hW3 := sq_W_xp x3 hW2
          have rk3 := sq_rk_xp x3 hX rk2
          have kd_a_63 := sj_kd_nO S2 a_63 3
          obtain ⟨⟨⟨kd_x, rf_x_0, rf_x_1, rf_x_2, rf_x_3⟩, hTl, hHl, hinj⟩, ⟨hT, h4, hT1⟩, hK3, ⟨hH1, hp6, hH2, hq6, hQ⟩, hX, hB⟩ := id hW3
          have kd_t := hT.1.1
          have rf_t_4 := hT.1.2.2.2.2.1.1
          have rf_t_5 := hT.1.2.2.2.2.2.1.1
          have hol := hT.1.2.2.2.2.1.2
          have kd_o := hol.1
          have hset := hT.1.2.2.2.2.2.1.2
          have kd_se := hset.1
          have kd_tx := hX.1
          have kd_hi := hHl.1
          have h3 : sj_fi (sj_nO S2 a_63 3) (g 0) 3 = m 9 := hT.2.1.1
          have h6 : sj_fi (sj_nO S2 a_63 3) (g 0) 6 = m 12 := hT.2.1.2.1
          have h7 : sj_fi (sj_nO S2 a_63 3) (g 0) 7 = m 13 := hT.2.1.2.2
          have hRo := hT.2.2.2.2.1
          obtain ⟨h9, hn8⟩ := id hI.1
          have hN28 := hI.2.1.2
          have hv := sj_inv_oav hI
          have rf_tx_4 := hX.2.2.1.1
          refine sj_dup C 67 rfl dX6_lay_66 rfl ?_
          refine sj_aload_n C 68 rfl dX6_lay_67 rfl rfl ?_
          refine sj_getr C 71 rfl fd_X6_10 dX6_lay_68 kd_x rf_x_0 ?_
          refine sj_getI C 74 rfl fd_X6_63 dX6_lay_71 kd_tx ?_
          rw [rk3.1, hkr]
          refine sj_aload_n C 75 rfl dX6_lay_74 rfl rfl ?_
          refine sj_getr C 78 rfl fd_X6_10 dX6_lay_75 kd_x rf_x_0 ?_
          refine sj_getr C 81 rfl fd_X6_66 dX6_lay_78 kd_tx rf_tx_4 ?_
          refine sj_callI C 84 rfl dX6_lay_81 cv_X6_70 rfl (ct_X3_init _ kd_a_63 (k := R9.2.2.1) hk9.2 hX.2.2.1.2) rfl rfl rfl rfl rfl (fun v_81 S_81 hp_81 => ?_)
          obtain ⟨rfl, rm, cm, rn, cn, ⟨f_rm, f_cm, f_rn, f_cn, n_c, n_r⟩, kd_a_63, s_n, s_1, s_rn, s_2, s_rm, i_cm, i_cn, x4⟩ := hp_81
          have hsh : sq_sh S_81 a_63 rn cn rm cm R9.2.2.1 := ⟨kd_a_63, s_n, hk9.2, s_1, s_rn, s_2, s_rm⟩
          refine sj_astore_n_2 C 85 rfl dX6_lay_84 rfl rfl ?_
          refine sj_aload_n C 86 rfl dX6_lay_85 rfl rfl ?_
          refine sj_callVv C 89 rfl dX6_lay_86 cv_X6_73 rfl (ct_X3_reckonMarks _ hsh n_c) rfl rfl rfl ⟨_, _, kd_a_63, rfl, rfl, by decide⟩ ⟨rfl, rfl⟩ ?_
          obtain ⟨hW5, x5, hsm5⟩ := sq_lay_ok hW2 hgk2 (f := R9.2.2.2) hk9 (fun j hj => by exact (if_pos (show j < 40 by omega)).trans ((congrFun rk3.2 j).trans (hfr j hj))) fr_63 f_cm f_cn n_c hsh i_cm i_cn x4 (M := sj_lay m (sj_tn (m 9)) age R9.2.2.1 R9.2.2.2) (ns := sj_tn (m 9)) hshw (sj_lay_ns hk9.2) (fun i w hi hw => sj_lay_s hk9.2 hi hw)
          have kd_a_63 : sj_kd (sj_sIa S_81 cm (sj_mr6 (sj_ia S_81 cn) R9.2.2.1 (sj_ia S_81 cm) 6)) a_63 = some 3 := kd_a_63
          generalize sj_sIa S_81 cm (sj_mr6 (sj_ia S_81 cn) R9.2.2.1 (sj_ia S_81 cm) 6) = S5 at hW5 x5 hsm5 kd_a_63 ⊢
          obtain ⟨⟨⟨kd_x, rf_x_0, rf_x_1, rf_x_2, rf_x_3⟩, hTl, hHl, hinj⟩, ⟨hT, h4, hT1⟩, hK3, ⟨hH1, hp6, hH2, hq6, hQ⟩, hX, hB⟩ := id hW5
          have kd_t := hT.1.1
          have rf_t_4 := hT.1.2.2.2.2.1.1
          have rf_t_5 := hT.1.2.2.2.2.2.1.1
          have hol := hT.1.2.2.2.2.1.2
          have kd_o := hol.1
          have hset := hT.1.2.2.2.2.2.1.2
          have kd_se := hset.1
          have kd_tx := hX.1
          have kd_hi := hHl.1
          have h3 : sj_fi S5 (g 0) 3 = m 9 := hT.2.1.1
          have h6 : sj_fi S5 (g 0) 6 = m 12 := hT.2.1.2.1
          have h7 : sj_fi S5 (g 0) 7 = m 13 := hT.2.1.2.2
          have hRo := hT.2.2.2.2.1
          obtain ⟨h9, hn8⟩ := id hI.1
          have hN28 := hI.2.1.2
          have hv := sj_inv_oav hI
          have rf_tx_4 := hX.2.2.1.1
          refine sj_aload_n C 90 rfl dX6_lay_89 rfl rfl ?_
          refine sj_getr C 93 rfl fd_X6_19 dX6_lay_90 kd_x rf_x_1 ?_
          refine sj_aload_n C 94 rfl dX6_lay_93 rfl rfl ?_
          refine sj_iload_n C 95 rfl dX6_lay_94 rfl rfl ?_
          refine sj_callVd C 98 rfl dX6_lay_95 cv_X6_76 rfl (ct_X4_putDown _ hT.1 h8 (h3.trans h9) kd_a_63 age) rfl rfl rfl ⟨_, _, kd_t, rfl, rfl, by decide⟩ ⟨rfl, rfl⟩ ?_
          have hT6 := sq_T_lay hT (sq_P_F (by omega)) hI h8 (fun j h1 h2 => sj_lay_lo h1 h2) sj_lay_9 sj_lay_a hIM hsm5
          have hf6 : sq_fr (sq_P (sq_D g 0)) S5 (sj_wFi (sj_sIa (sj_sRa S5 (sq_D g 0 1) (va_up (sj_ra S5 (sq_D g 0 1)) (sj_tn (m 9)) (some a_63))) (sq_D g 0 4) (upd (sj_ia S5 (sq_D g 0 4)) (sj_tn (m 9)) age)) (sq_D g 0 0) 3 (nI (sj_tn (m 9) + 1))) := sq_fr_tr (sq_fr_tr (sq_fr_ra _ (sq_Pi (sq_D g 0))) (sq_fr_ia _ (sq_Pi (sq_D g 0)))) (sq_fr_fi 3 _ (sq_Pi (sq_D g 0) (i := 0)))
          have hW6 := sq_W_main hW5 hf6 hT6 (sq_k3_put hT.1 kd_a_63 (hK3 0 (by omega)))
          generalize (sj_wFi (sj_sIa (sj_sRa S5 (sq_D g 0 1) (va_up (sj_ra S5 (sq_D g 0 1)) (sj_tn (m 9)) (some a_63))) (sq_D g 0 4) (upd (sj_ia S5 (sq_D g 0 4)) (sj_tn (m 9)) age)) (sq_D g 0 0) 3 (nI (sj_tn (m 9) + 1))) = S6 at hf6 hW6 ⊢
          have kd_x := hW6.1.1.1
          have rf_x_0 := hW6.1.1.2.1
          have kd_tx := hW6.2.2.2.2.1.1
          refine sj_istore_n_3 C 99 rfl dX6_lay_98 rfl rfl ?_
          refine sj_aload_n C 100 rfl dX6_lay_99 rfl rfl ?_
          refine sj_getr C 103 rfl fd_X6_10 dX6_lay_100 kd_x rf_x_0 ?_
          refine sj_callVv C 106 rfl dX6_lay_103 cv_X6_80 rfl (ct_X5_empty _ kd_tx) rfl rfl rfl ⟨_, _, kd_tx, rfl, rfl, by decide⟩ ⟨rfl, rfl⟩ ?_
          obtain ⟨hW7, hf7⟩ := sq_W_emp hW6
          refine sj_iload_n C 107 rfl dX6_lay_106 rfl rfl ?_
          refine sj_iret C hR rfl rfl dX6_lay_107 ?_
          exact ⟨rfl, sq_xp_tr (sq_xp_fr hf1) (sq_xp_tr (sq_xp_fr hf2) (sq_xp_tr (sq_xp_up x5 (fun _ _ _ h => h.elim)) (sq_xp_tr (sq_xp_up (sq_xp_fr hf6) (fun a _ _ h => sq_P_C (by omega) a h)) (sq_xp_fr hf7)))), hW7⟩
        · exact absurd (show m 9 < 8 by rw [h9]; exact nI_lt (b := 8) h8 (by omega)) c_39
      · exact absurd c_17 (by decide)
