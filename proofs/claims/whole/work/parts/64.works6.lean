/-! THE CLASS ITSELF: its works, all -/
/-- the state without a stop -/
def sj_st (m : Nat → Int32) : Nat → Int32 := upd (upd m 12 (-1)) 13 (-1)
theorem sj_st_e2 (m : Nat → Int32) : sj_e2 m (sj_st m) := fun _ h1 h2 => (sj_upd_ne _ _ h2).trans (sj_upd_ne _ _ h1)
theorem sj_inv_st {m : Nat → Int32} (hI : sj_inv m) : sj_inv (sj_st m) := sj_inv_cg (fun j _ hj => sj_st_e2 m j (by omega) (by omega)) hI
theorem sj_uc_st {m : Nat → Int32} (hu : sj_uc m) : sj_uc (sj_st m) := by
  have h := sj_st_e2 m
  unfold sj_uc
  rw [sj_e_hH h, sj_e_oa h, h 10 (by omega) (by omega)]
  exact hu
theorem sj_dpt_lo {m : Nat → Int32} (hI : sj_inv m) {sg f1 f2 : Int32} {j : Nat} (hj : j = 12 ∨ j = 13) : (sj_dpt m sg f1 f2).1 j = m j := by
  unfold sj_dpt
  by_cases c : sg = 121
  · rw [if_pos c]
    exact sj_pas_lo m f1 (by omega) _
  · rw [if_neg c]
    by_cases c2 : sg = 100
    · rw [if_pos c2]
      exact sj_drp_lo hI (by omega) (by omega)
    · rw [if_neg c2]
      exact sj_sw_o m _ _ _ (by omega) (by omega) (by omega)
theorem sj_dpt_st {m : Nat → Int32} (hI : sj_inv m) (sg f1 f2 : Int32) : (sj_dpt (sj_st m) sg f1 f2).1 = sj_st (sj_dpt m sg f1 f2).1 := by
  funext j
  by_cases h : j = 12 ∨ j = 13
  · rw [sj_dpt_lo (sj_inv_st hI) h]
    rcases h with rfl | rfl
    · rfl
    · rfl
  · rw [sj_e_dpt (sj_st_e2 m) sg f1 f2 j (by omega) (by omega)]
    exact (sj_st_e2 _ j (by omega) (by omega)).symm
theorem sj_uc_dpt {m : Nat → Int32} (hI : sj_inv m) (hu : sj_uc m) {sg f1 f2 : Int32} (h : sj_wnp m sg f1 f2 = 0) (hy : sg = 121 → 0 ≤ f1 ∧ f1 ≤ 99) : sj_uc (sj_dpt m sg f1 f2).1 := by
  unfold sj_wnp at h
  unfold sj_dpt
  by_cases c : sg = 121
  · rw [if_pos c]
    exact sj_uc_pas hI hu (sj_inv_pas hI (hy c) _ rfl)
  · rw [if_neg c]
    rw [if_neg c] at h
    by_cases c3 : sj_isn m f1 = false ∨ (¬ sg = 100 ∧ sj_isn m f2 = false)
    · rw [if_pos c3] at h
      exact absurd h (by decide)
    · rw [if_neg c3] at h
      have hi : sj_isn m f1 = true := by
        cases hc : sj_isn m f1
        · exact absurd (Or.inl hc) c3
        · rfl
      obtain ⟨i, hi9, rfl⟩ := sj_isn_n hI.1.1 hI.1.2 hi
      have hn8 := hI.1.2
      by_cases c2 : sg = 100
      · rw [if_pos c2]
        show sj_uc (sj_drp m (sj_tn (nI i)))
        rw [sj_tn_nI (by omega)]
        exact sj_uc_drp hI hu hi9
      · rw [if_neg c2]
        rw [if_neg c2] at h
        have he : sj_isn m f2 = true := by
          cases hc : sj_isn m f2
          · exact absurd (Or.inr ⟨c2, hc⟩) c3
          · rfl
        obtain ⟨o, ho9, rfl⟩ := sj_isn_n hI.1.1 hI.1.2 he
        show sj_uc (sj_sw m (sj_tn (nI i)) (sj_tn (nI o)) (decide (sg = 108)))
        rw [sj_tn_nI (show i < 2 ^ 31 by omega), sj_tn_nI (show o < 2 ^ 31 by omega)] at *
        exact sj_uc_sw hI hu hi9 ho9 h
theorem sj_wkE_0 (m : Nat → Int32) (k : Nat) : sj_wkE (m, k, 0) = sj_st m := rfl
theorem sj_wkE_n {m : Nat → Int32} {k : Nat} {w : Int32} (h : ¬ w = 0) : sj_wkE (m, k, w) = upd (upd (sj_st m) 12 (nI k)) 13 w := by
  unfold sj_wkE
  dsimp only
  rw [if_neg h, if_neg h]
  funext j
  unfold sj_st upd
  by_cases h3 : j = 13
  · rw [if_pos h3, if_pos h3]
  · rw [if_neg h3, if_neg h3]
    by_cases h2 : j = 12
    · rw [if_pos h2, if_pos h2]
    · rw [if_neg h2, if_neg h2, if_neg h3, if_neg h2]
theorem sq_wd_le {B : Nat → Int32} {n : Nat} : ∀ (j : Nat) (s : sq_Q) (q : Nat) (a b c : Nat → Int32), (sq_wd B n j s q a b c).2.1 ≤ q + j
  | 0, _, q, _, _, _ => Nat.le_refl q
  | j + 1, s, q, a, b, c => by
    cases ht : sq_t B n 59 s
    · rw [sq_wd_n ht]
      show q ≤ q + (j + 1)
      omega
    · rw [sq_wd_y ht]
      have ih := sq_wd_le (B := B) (n := n) j (sq_pt B n (sq_S B n 59 s)) (q + 1) (upd a q (sq_nx B n (sq_S B n 59 s))) (upd b q (sq_p1 B n (sq_S B n 59 s))) (upd c q (sq_p2 B n (sq_S B n 59 s)))
      omega
theorem sj_n121 : ¬ (100 : Int32) = 121 := by decide
theorem sj_wnp_100 (m : Nat → Int32) (v x : Int32) : sj_wnp m 100 v x = if sj_isn m v = false then 7 else 0 := by
  unfold sj_wnp
  rw [if_neg sj_n121]
  by_cases hi : sj_isn m v = false
  · rw [if_pos (Or.inl hi), if_pos hi]
  · have h9 : ¬ (sj_isn m v = false ∨ (¬ (100 : Int32) = 100 ∧ sj_isn m x = false)) := fun h => h.elim hi (fun h => h.1 rfl)
    rw [if_neg h9, if_pos rfl, if_neg hi]
theorem sj_dpt_100 (m : Nat → Int32) (v x : Int32) : (sj_dpt m 100 v x).1 = sj_drp m (sj_tn v) := by
  unfold sj_dpt
  rw [if_neg sj_n121, if_pos rfl]
/-- an order of parts that are left, and what the reference makes of them -/
def sq_lf (B : Nat → Int32) (n : Nat) (a b c : Nat → Int32) (Qn : Nat) (R : (Nat → Int32) × Nat × Int32) (J k : Nat) (m : Nat → Int32) : Prop := (k = Qn ∧ R = (m, k, 0)) ∨ ∃ (p : Nat) (f1 f2 : Int32) (J' : Nat), sq_ch B n a b c Qn J p k ∧ sj_wkL B n J' m p f1 f2 k = R ∧ p ≤ n ∧ n + 2 ≤ p + J'
set_option maxHeartbeats 60000 in
theorem sq_lf_s {B : Nat → Int32} {n : Nat} {a b c : Nat → Int32} {Qn : Nat} {R : (Nat → Int32) × Nat × Int32} {J k : Nat} {m : Nat → Int32} (h : sq_lf B n a b c Qn R (J + 1) k m) (hk : k < Qn) : ∃ sg f1 f2, sq_sg sg ∧ (sg = 121 → 0 ≤ f1 ∧ f1 ≤ 99) ∧ a k = sg ∧ b k = f1 ∧ ∃ f2', (sg = 108 ∨ sg = 117 → c k = f2') ∧ f2 = c k ∧ (sj_wnp m sg f1 f2 = 0 → sq_lf B n a b c Qn R J (k + 1) (sj_dpt m sg f1 f2).1) ∧ (¬ sj_wnp m sg f1 f2 = 0 → R = (m, k, sj_wnp m sg f1 f2)) := by
  rcases h with ⟨h1, _⟩ | ⟨p, f1, f2, J', hc, hr, hp, hJ⟩
  · omega
  · obtain ⟨g1, g2, g3, g4, g5, g6, g7⟩ := hc
    obtain ⟨J1, rfl⟩ : ∃ J1, J' = J1 + 1 := ⟨J' - 1, by omega⟩
    have hlt := (sj_prt_le (B := B) hp).2.2 g2
    have hnp : ¬ n ≤ p := fun h9 => by
      have := (sj_prt_le (B := B) hp).2.1
      omega
    have hn2 : ¬ (sj_prt B n p).1 = false := by rw [g2]; decide
    -- the second number counts only where there is one
    have hw : sj_wnp m (sj_prt B n p).2.2.1 ((sj_prt B n p).2.2.2.1.getD f1) ((sj_prt B n p).2.2.2.2.getD f2) = sj_wnp m (sj_prt B n p).2.2.1 (b k) (c k) ∧ (sj_dpt m (sj_prt B n p).2.2.1 ((sj_prt B n p).2.2.2.1.getD f1) ((sj_prt B n p).2.2.2.2.getD f2)).1 = (sj_dpt m (sj_prt B n p).2.2.1 (b k) (c k)).1 := by
      rw [g5]
      generalize (sj_prt B n p).2.2.1 = sg at *
      rcases g3 with rfl | rfl | rfl | rfl
      · rw [g6 (Or.inl rfl), Option.getD_some, Option.getD_some]
        exact ⟨rfl, rfl⟩
      · rw [g6 (Or.inr rfl), Option.getD_some, Option.getD_some]
        exact ⟨rfl, rfl⟩
      · rw [Option.getD_some]
        unfold sj_wnp sj_dpt
        rw [if_pos rfl, if_pos rfl, if_pos rfl, if_pos rfl]
        exact ⟨rfl, rfl⟩
      · rw [Option.getD_some]
        exact ⟨(sj_wnp_100 m _ _).trans (sj_wnp_100 m _ _).symm, (sj_dpt_100 m _ _).trans (sj_dpt_100 m _ _).symm⟩
    refine ⟨(sj_prt B n p).2.2.1, b k, c k, g3, fun hy => ?_, g4, rfl, c k, fun _ => rfl, rfl, fun h0 => ?_, fun h0 => ?_⟩
    · obtain ⟨v, hv1, hv2, hv3⟩ := sj_prt_y g2 hy
      rw [g5] at hv1
      cases hv1
      exact ⟨hv2, hv3⟩
    · rw [← hw.1] at h0
      rw [sj_wkL_3 hnp hn2 h0] at hr
      rw [hw.2] at hr
      rcases g7 with ⟨e1, e2⟩ | ⟨e1, e2⟩
      · left
        obtain ⟨J2, rfl⟩ : ∃ J2, J1 = J2 + 1 := ⟨J1 - 1, by omega⟩
        rw [sj_wkL_1 (by omega)] at hr
        exact ⟨e2, hr.symm⟩
      · right
        exact ⟨_, _, _, J1, e2, hr, by omega, by omega⟩
    · rw [← hw.1] at h0
      rw [sj_wkL_4 hnp hn2 h0] at hr
      rw [← hw.1]
      exact hr.symm
theorem sq_ch_up {B : Nat → Int32} {n Q : Nat} {a b c : Nat → Int32} : ∀ j p q, sq_ch B n a b c Q j p q → sq_ch B n a b c Q (j + 1) p q
  | 0, _, _, h => h.elim
  | j + 1, p, q, h => ⟨h.1, h.2.1, h.2.2.1, h.2.2.2.1, h.2.2.2.2.1, h.2.2.2.2.2.1, h.2.2.2.2.2.2.imp id (fun g => ⟨g.1, sq_ch_up j _ _ g.2⟩)⟩
theorem sq_lf_up {B : Nat → Int32} {n : Nat} {a b c : Nat → Int32} {Qn : Nat} {R : (Nat → Int32) × Nat × Int32} {J k : Nat} {m : Nat → Int32} (h : sq_lf B n a b c Qn R J k m) : sq_lf B n a b c Qn R (J + 1) k m := h.imp id (fun ⟨p, f1, f2, J', h1, h2⟩ => ⟨p, f1, f2, J', sq_ch_up _ _ _ h1, h2⟩)
/-- the rows of parts stay -/
def sq_rw4 (T : sj_St) (g : Nat → Nat) (W : sq_R4) : Prop := sj_ia T (sq_E g 6) = W.2.2.1 ∧ sj_ia T (sq_E g 8) = W.2.2.2.1 ∧ sj_ia T (sq_E g 10) = W.2.2.2.2 ∧ sj_fi T (g 128) 9 = nI W.2.1
theorem sq_rows_xw {S : sj_St} {g : Nat → Nat} {n : Nat} {B : Nat → Int32} (hX : sq_xl S (g 128) (sq_E g) n B) (W : sq_R4) (fn : Nat → Int32) : sq_rw4 (sq_xw S (g 128) (sq_E g) W fn) g W := ⟨sq_a6 hX, sq_a8 hX, sq_a10, sq_x9⟩
theorem sq_rows_P {P : Nat → Prop} {S T : sj_St} {g : Nat → Nat} {W : sq_R4} (h : sq_fr P S T) (n6 : ¬ P (sq_E g 6)) (n8 : ¬ P (sq_E g 8)) (n10 : ¬ P (sq_E g 10)) (n0 : ¬ P (g 128)) (hr : sq_rw4 S g W) : sq_rw4 T g W := ⟨(h.2.2.2.1 _ n6).2.1.trans hr.1, (h.2.2.2.1 _ n8).2.1.trans hr.2.1, (h.2.2.2.1 _ n10).2.1.trans hr.2.2.1, (congrFun (h.2.2.2.1 _ n0).1 9).trans hr.2.2.2⟩
theorem sq_rows_t {S T : sj_St} {g : Nat → Nat} {W : sq_R4} (hi : ∀ i j, i < 160 → j < 160 → g i = g j → i = j) {t : Nat} (ht : t < 8) (h : sq_fr (sq_P (sq_D g t)) S T) (hr : sq_rw4 S g W) : sq_rw4 T g W := sq_rows_P h (sq_P_no hi (k := 128 + 6) ht (by omega) (by omega)) (sq_P_no hi (k := 128 + 8) ht (by omega) (by omega)) (sq_P_no hi (k := 128 + 10) ht (by omega) (by omega)) (sq_P_no hi (k := 128) ht (by omega) (by omega)) hr
theorem sq_rows_h {S : sj_St} {g : Nat → Nat} {W : sq_R4} (hi : ∀ i j, i < 160 → j < 160 → g i = g j → i = j) (k : Nat) (v : Int32) (hr : sq_rw4 S g W) : sq_rw4 (sj_wFi S (g 139) k v) g W := sq_rows_P (sq_Hfr k v) (sq_inj hi (i := 128 + 6) (j := 139) (by omega)) (sq_inj hi (i := 128 + 8) (j := 139) (by omega)) (sq_inj hi (i := 128 + 10) (j := 139) (by omega)) (sq_inj hi (i := 128) (j := 139) (by omega)) hr
theorem sq_rows_sv {S : sj_St} {g : Nat → Nat} {W : sq_R4} (hi : ∀ i j, i < 160 → j < 160 → g i = g j → i = j) {p q : Nat} (hr : sq_rw4 S g W) : sq_rw4 (sq_svS S (g 139) (fun j => sq_D g (2 + j)) (sq_D g 0) p q) g W := by
  have h1 := sq_rows_t hi (t := 2 + sq_n6 p) (by have := sq_n6_lt p; omega) (sq_fr_to (sj_wFi S (g 139) 1 (nI (sq_n6 p))) (sq_D g (2 + sq_n6 p)) (sq_D g 0)) (sq_rows_h hi 1 (nI (sq_n6 p)) hr)
  unfold sq_svS
  by_cases h6 : q < 6
  · rw [if_pos h6]
    exact sq_rows_h hi 2 _ h1
  · rw [if_neg h6]
    exact h1
theorem sq_rows_st {S : sj_St} {g : Nat → Nat} {W : sq_R4} (hi : ∀ i j, i < 160 → j < 160 → g i = g j → i = j) {v w : Int32} (hr : sq_rw4 S g W) : sq_rw4 (sj_wFi (sj_wFi S (sq_D g 0 0) 6 v) (sq_D g 0 0) 7 w) g W := sq_rows_t hi (t := 0) (by omega) (sq_fr_tr (sq_fr_fi 6 _ (sq_Pi (sq_D g 0) (i := 0))) (sq_fr_fi 7 _ (sq_Pi (sq_D g 0) (i := 0)))) hr
theorem sq_rows_fr {S T : sj_St} {g : Nat → Nat} {W : sq_R4} {m : Nat → Int32} {hs : Bool} {ms : Nat → Int32} {p q : Nat} {Q : Nat → Nat → Int32} {n : Nat} {B : Nat → Int32} (h : sq_fr (sq_P0 g) S T) (hW : sq_W S g m hs ms p q Q n B) (hr : sq_rw4 S g W) : sq_rw4 T g W := sq_rows_t hW.1.2.2.2 (t := 0) (by omega) h hr
set_option maxRecDepth 100000 in
set_option maxHeartbeats 250000 in
theorem ct_X6_work (l : Launch) {S : sj_St} {g : Nat → Nat} {m : Nat → Int32} {hs : Bool} {ms : Nat → Int32} {p q : Nat} {Q : Nat → Nat → Int32} {n : Nat} {B : Nat → Int32} (hW : sq_W S g m hs ms p q Q n B) (hI : sj_inv m) (hu : sj_uc m) (e1 e2 e3 : Int32) (hok : (sj_wkt B n e1 e2 e3).1 = -1) (f1 f2 : Int32) {R9 : (Nat → Int32) × Nat × Int32} (hR9 : sj_wkL B n (n + 2) m 0 f1 f2 0 = R9) : sj_Ctr l mX6_work [.ref (g 141)] S (fun r T => r = some (.int (nI R9.2.1)) ∧ sq_fr (sq_Cl g) S T ∧ sq_W T g (sj_wkE R9) hs ms (sq_n6 p) (sq_q6 q) (sq_Qs m Q) 0 B) := by
  refine sj_start ([some (.ref (g 141)), none]) (by decide +kernel) rfl rfl (fun X hX C hR => ?_)
  subst hX
  obtain ⟨⟨⟨kd_x, rf_x_0, rf_x_1, rf_x_2, rf_x_3⟩, hTl, hHl, hinj⟩, ⟨hT, h4, hT1⟩, hK3, ⟨hH1, hp6, hH2, hq6, hQ⟩, hX, hB⟩ := id hW
  have kd_t := hT.1.1
  have rf_t_4 := hT.1.2.2.2.2.1.1
  have rf_t_5 := hT.1.2.2.2.2.2.1.1
  have hol := hT.1.2.2.2.2.1.2
  have kd_o := hol.1
  have hset := hT.1.2.2.2.2.2.1.2
  have kd_se := hset.1
  have kd_tx := hX.1
  have kd_hi := hHl.1
  have h3 : sj_fi S (g 0) 3 = m 9 := hT.2.1.1
  have h6 : sj_fi S (g 0) 6 = m 12 := hT.2.1.2.1
  have h7 : sj_fi S (g 0) 7 = m 13 := hT.2.1.2.2
  have hRo := hT.2.2.2.2.1
  obtain ⟨h9, hn8⟩ := id hI.1
  have hN28 := hI.2.1.2
  have hv := sj_inv_oav hI
  have hn60 := hX.2.2.2.2.2.2.1.2.1
  obtain ⟨wa, wb, wc, wd⟩ := sq_ws_eq hB hn60 (sj_ia S (sq_E g 6)) (sj_ia S (sq_E g 8)) (sj_ia S (sq_E g 10)) e1 e2 e3
  have hcomp := wc.trans (decide_eq_true hok)
  obtain ⟨-, hch⟩ := wd hok
  have hQ60 : (sq_ws B n (sj_ia S (sq_E g 6)) (sj_ia S (sq_E g 8)) (sj_ia S (sq_E g 10))).2.1 ≤ 60 := Nat.le_trans (sq_wd_le _ _ _ _ _ _) (by omega)
  generalize hWS : (sq_ws B n (sj_ia S (sq_E g 6)) (sj_ia S (sq_E g 8)) (sj_ia S (sq_E g 10))) = WS at hcomp hch hQ60
  have hstart : sq_lf B n WS.2.2.1 WS.2.2.2.1 WS.2.2.2.2 WS.2.1 R9 (n + 2) 0 m := sq_lf_up (Or.inr ⟨0, f1, f2, n + 2, hch, hR9, Nat.zero_le _, by omega⟩)
  have cut_65 : ∀ (k : Nat) (T : sj_St), sq_W T g (sj_wkE R9) hs ms (sq_n6 p) (sq_q6 q) (sq_Qs m Q) n B → R9.2.1 = k → sq_fr (sq_Cl g) S T → sj_G X T 0 0 [some (.ref (g 141)), some (.int (nI k))] 65 [] := by
    intro k T hWT hRk hfT
    have kd_x := hWT.1.1.1
    have rf_x_0 := hWT.1.1.2.1
    have kd_tx := hWT.2.2.2.2.1.1
    refine sj_aload_n C 66 rfl dX6_work_65 rfl rfl ?_
    refine sj_getr C 69 rfl fd_X6_10 dX6_work_66 kd_x rf_x_0 ?_
    refine sj_callVv C 72 rfl dX6_work_69 cv_X6_80 rfl (ct_X5_empty _ kd_tx) rfl rfl rfl ⟨_, _, kd_tx, rfl, rfl, by decide⟩ ⟨rfl, rfl⟩ ?_
    refine sj_iload_n C 73 rfl dX6_work_72 rfl rfl ?_
    refine sj_iret C hR rfl rfl dX6_work_73 ?_
    obtain ⟨hW4, hf4⟩ := sq_W_emp hWT
    rw [hRk]
    exact ⟨rfl, sq_fr_tr hfT hf4, hW4⟩
  have cut_40 : ∀ (k : Nat) (m9 : Nat → Int32) (T : sj_St), sq_lf B n WS.2.2.1 WS.2.2.2.1 WS.2.2.2.2 WS.2.1 R9 (n + 2) k m9 → k ≤ WS.2.1 → sj_inv m9 → sj_uc m9 → sq_W T g (sj_st m9) hs ms (sq_n6 p) (sq_q6 q) (sq_Qs m Q) n B → (sj_ia T (sq_E g 6) = WS.2.2.1 ∧ sj_ia T (sq_E g 8) = WS.2.2.2.1 ∧ sj_ia T (sq_E g 10) = WS.2.2.2.2 ∧ sj_fi T (g 128) 9 = nI WS.2.1) → sq_fr (sq_Cl g) S T → sj_G X T 0 0 [some (.ref (g 141)), some (.int (nI k))] 40 [] := by
    suffices hall : ∀ J, ∀ (k : Nat) (m9 : Nat → Int32) (T : sj_St), sq_lf B n WS.2.2.1 WS.2.2.2.1 WS.2.2.2.2 WS.2.1 R9 (J) k m9 → k ≤ WS.2.1 → sj_inv m9 → sj_uc m9 → sq_W T g (sj_st m9) hs ms (sq_n6 p) (sq_q6 q) (sq_Qs m Q) n B → (sj_ia T (sq_E g 6) = WS.2.2.1 ∧ sj_ia T (sq_E g 8) = WS.2.2.2.1 ∧ sj_ia T (sq_E g 10) = WS.2.2.2.2 ∧ sj_fi T (g 128) 9 = nI WS.2.1) → sq_fr (sq_Cl g) S T → sj_G X T 0 0 [some (.ref (g 141)), some (.int (nI k))] 40 [] from hall (n + 2)
    refine sj_ind (fun J => ∀ (k : Nat) (m9 : Nat → Int32) (T : sj_St), sq_lf B n WS.2.2.1 WS.2.2.2.1 WS.2.2.2.2 WS.2.1 R9 (J) k m9 → k ≤ WS.2.1 → sj_inv m9 → sj_uc m9 → sq_W T g (sj_st m9) hs ms (sq_n6 p) (sq_q6 q) (sq_Qs m Q) n B → (sj_ia T (sq_E g 6) = WS.2.2.1 ∧ sj_ia T (sq_E g 8) = WS.2.2.2.1 ∧ sj_ia T (sq_E g 10) = WS.2.2.2.2 ∧ sj_fi T (g 128) 9 = nI WS.2.1) → sq_fr (sq_Cl g) S T → sj_G X T 0 0 [some (.ref (g 141)), some (.int (nI k))] 40 []) (fun k m9 T hlf hkQ hI9 hu9 hWT hrows hfT => ?_) (fun J ih k m9 T hlf hkQ hI9 hu9 hWT hrows hfT => ?_)
    · rcases hlf with ⟨hkq, hRe⟩ | ⟨_, _, _, _, hf, _⟩
      · have kd_x := hWT.1.1.1
        have rf_x_0 := hWT.1.1.2.1
        have kd_tx := hWT.2.2.2.2.1.1
        obtain ⟨hr6, hr8, hr10, hr9⟩ := hrows
        refine sj_iload_n C 41 rfl dX6_work_40 rfl rfl ?_
        refine sj_aload_n C 42 rfl dX6_work_41 rfl rfl ?_
        refine sj_getr C 45 rfl fd_X6_10 dX6_work_42 kd_x rf_x_0 ?_
        refine sj_getI C 48 rfl fd_X6_173 dX6_work_45 kd_tx ?_
        rw [hr9, ← hkq]
        refine sj_icmp_ge C 65 51 rfl rfl dX6_work_48 (fun c_48 => ?_) (fun c_48 => absurd (Int32.le_refl _) c_48)
        exact cut_65 k T (by rw [hRe, sj_wkE_0]; exact hWT) (by rw [hRe]) hfT
      · exact hf.elim
    have kd_x := hWT.1.1.1
    have rf_x_0 := hWT.1.1.2.1
    have kd_tx := hWT.2.2.2.2.1.1
    obtain ⟨hr6, hr8, hr10, hr9⟩ := hrows
    refine sj_iload_n C 41 rfl dX6_work_40 rfl rfl ?_
    refine sj_aload_n C 42 rfl dX6_work_41 rfl rfl ?_
    refine sj_getr C 45 rfl fd_X6_10 dX6_work_42 kd_x rf_x_0 ?_
    refine sj_getI C 48 rfl fd_X6_173 dX6_work_45 kd_tx ?_
    rw [hr9]
    refine sj_icmp_ge C 65 51 rfl rfl dX6_work_48 (fun c_48 => ?_) (fun c_48 => ?_)
    · have hkq : k = WS.2.1 := by
        have h8 : ¬ k < WS.2.1 := fun h7 => nI_ge h7 (by omega) c_48
        omega
      rcases hlf with ⟨_, hRe⟩ | ⟨p9, f19, f29, J9, hc, _⟩
      · exact cut_65 k T (by rw [hRe, sj_wkE_0]; exact hWT) (by rw [hRe]) hfT
      · have := hc.1
        omega
    · have hkl : k < WS.2.1 := Nat.not_le.mp fun h8 => c_48 (nI_le h8 (by omega))
      obtain ⟨sg, v1, v2, hsg, hy9, ha9, hb9, v3, -, hv2, hnx, hst⟩ := sq_lf_s hlf hkl
      subst ha9
      subst hb9
      subst hv2
      refine sj_aload_n C 52 rfl dX6_work_51 rfl rfl ?_
      refine sj_iload_n C 53 rfl dX6_work_52 rfl rfl ?_
      refine sj_callVp C 56 rfl dX6_work_53 cv_X6_176 rfl (ct_X6_doPart _ hWT (sj_inv_st hI9) (sj_uc_st hu9) (k := k) (by omega) (congrFun hr6 k) (congrFun hr8 k) (congrFun hr10 k) hsg hy9) rfl rfl rfl ⟨_, _, kd_x, rfl, rfl, by decide⟩ ⟨rfl, rfl⟩ (fun v_53 S_53 hp_53 => ?_)
      obtain ⟨rfl, hf3, hW3⟩ := hp_53
      have ewn : sj_wnp (sj_st m9) (WS.2.2.1 k) (WS.2.2.2.1 k) (WS.2.2.2.2 k) = sj_wnp m9 (WS.2.2.1 k) (WS.2.2.2.1 k) (WS.2.2.2.2 k) := sj_e_wnp (sj_st_e2 m9) _ _ _
      rw [ewn]
      have hrows3 := sq_rows_fr hf3 hWT ⟨hr6, hr8, hr10, hr9⟩
      refine sj_if_eq C 65 59 rfl rfl dX6_work_56 (fun c_56 => ?_) (fun c_56 => ?_)
      · have hwn : ¬ sj_wnp m9 (WS.2.2.1 k) (WS.2.2.2.1 k) (WS.2.2.2.2 k) = 0 := of_decide_eq_false (sj_bi0.mp c_56)
        have hRe := hst hwn
        exact cut_65 k _ (by rw [hRe, sj_wkE_n hwn]; rw [ewn, if_neg hwn] at hW3; exact hW3) (by rw [hRe]) (sq_fr_tr hfT (sq_fr_up hf3 (sq_P_C (by omega))))
      · have hw0 : sj_wnp m9 (WS.2.2.1 k) (WS.2.2.2.1 k) (WS.2.2.2.2 k) = 0 := of_decide_eq_true (sj_bin.mp c_56)
        have hw0s : sj_wnp (sj_st m9) (WS.2.2.1 k) (WS.2.2.2.1 k) (WS.2.2.2.2 k) = 0 := ewn.trans hw0
        refine sj_iinc_1 C 62 rfl dX6_work_59 rfl rfl ?_
        refine sj_goto C 40 rfl dX6_work_62 ?_
        rw [sj_n1]
        exact ih (k + 1) _ _ (hnx hw0) (by omega) (sj_inv_dpt hI9 hw0 hy9) (sj_uc_dpt hI9 hu9 hw0 hy9) (by rw [if_pos hw0s, sj_dpt_st hI9] at hW3; exact hW3) hrows3 (sq_fr_tr hfT (sq_fr_up hf3 (sq_P_C (by omega))))
  refine sj_aload_n C 1 rfl dX6_work_0 rfl rfl ?_
  refine sj_getr C 4 rfl fd_X6_10 dX6_work_1 kd_x rf_x_0 ?_
  refine sj_callVd C 7 rfl dX6_work_4 cv_X6_162 rfl (ct_X5_readWorks _ hX) rfl rfl rfl ⟨_, _, kd_tx, rfl, rfl, by decide⟩ ⟨rfl, rfl⟩ ?_
  obtain ⟨hW1, hf0⟩ := sq_W_text hW (sq_fr_xs (s := (sq_ws B n (sj_ia S (sq_E g 6)) (sj_ia S (sq_E g 8)) (sj_ia S (sq_E g 10))).1) (k := 0) (q := (sq_ws B n (sj_ia S (sq_E g 6)) (sj_ia S (sq_E g 8)) (sj_ia S (sq_E g 10))).2.1) (fn := sj_ia S (sq_E g 4)) (fk := (sq_ws B n (sj_ia S (sq_E g 6)) (sj_ia S (sq_E g 8)) (sj_ia S (sq_E g 10))).2.2.1) (ff := (sq_ws B n (sj_ia S (sq_E g 6)) (sj_ia S (sq_E g 8)) (sj_ia S (sq_E g 10))).2.2.2.1) (fs := (sq_ws B n (sj_ia S (sq_E g 6)) (sj_ia S (sq_E g 8)) (sj_ia S (sq_E g 10))).2.2.2.2) rfl) (sq_xl_xs hX) hB
  have hrows1 := sq_rows_xw (S := S) hX (sq_ws B n (sj_ia S (sq_E g 6)) (sj_ia S (sq_E g 8)) (sj_ia S (sq_E g 10))) (sj_ia S (sq_E g 4))
  change sq_W (sq_xw S (g 128) (sq_E g) (sq_ws B n (sj_ia S (sq_E g 6)) (sj_ia S (sq_E g 8)) (sj_ia S (sq_E g 10))) (sj_ia S (sq_E g 4))) g m hs ms p q Q n B at hW1
  change sq_fr (sq_Cl g) S (sq_xw S (g 128) (sq_E g) (sq_ws B n (sj_ia S (sq_E g 6)) (sj_ia S (sq_E g 8)) (sj_ia S (sq_E g 10))) (sj_ia S (sq_E g 4))) at hf0
  generalize sq_xw S (g 128) (sq_E g) (sq_ws B n (sj_ia S (sq_E g 6)) (sj_ia S (sq_E g 8)) (sj_ia S (sq_E g 10))) (sj_ia S (sq_E g 4)) = S1 at hW1 hf0 hrows1 ⊢
  rw [hWS] at hrows1 ⊢
  obtain ⟨⟨⟨kd_x, rf_x_0, rf_x_1, rf_x_2, rf_x_3⟩, hTl, hHl, hinj⟩, ⟨hT, h4, hT1⟩, hK3, ⟨hH1, hp6, hH2, hq6, hQ⟩, hX, hB⟩ := id hW1
  have kd_t := hT.1.1
  have rf_t_4 := hT.1.2.2.2.2.1.1
  have rf_t_5 := hT.1.2.2.2.2.2.1.1
  have hol := hT.1.2.2.2.2.1.2
  have kd_o := hol.1
  have hset := hT.1.2.2.2.2.2.1.2
  have kd_se := hset.1
  have kd_tx := hX.1
  have kd_hi := hHl.1
  have h3 : sj_fi S1 (g 0) 3 = m 9 := hT.2.1.1
  have h6 : sj_fi S1 (g 0) 6 = m 12 := hT.2.1.2.1
  have h7 : sj_fi S1 (g 0) 7 = m 13 := hT.2.1.2.2
  have hRo := hT.2.2.2.2.1
  obtain ⟨h9, hn8⟩ := id hI.1
  have hN28 := hI.2.1.2
  have hv := sj_inv_oav hI
  refine sj_if_ne C 20 10 rfl rfl dX6_work_7 (fun c_7 => ?_) (fun c_7 => ?_)
  · refine sj_aload_n C 21 rfl dX6_work_20 rfl rfl ?_
    refine sj_getr C 24 rfl fd_X6_26 dX6_work_21 kd_x rf_x_2 ?_
    refine sj_aload_n C 25 rfl dX6_work_24 rfl rfl ?_
    refine sj_getr C 28 rfl fd_X6_19 dX6_work_25 kd_x rf_x_1 ?_
    refine sj_callVv C 31 rfl dX6_work_28 cv_X6_57 rfl (ct_X0_save _ hHl (fun j hj => hTl (2 + j) (by omega)) (hTl 0 (by omega)) hp6 hq6 hH1 hH2 (hK3 0 (by omega)) (fun j hj => sq_D_tp hinj (by omega) (by omega) (by omega)) (fun j i hj hi => sq_inj hinj (i := 139) (j := 16 * (2 + j) + i) (by omega))) rfl rfl rfl ⟨_, _, kd_hi, rfl, rfl, by decide⟩ ⟨rfl, rfl⟩ ?_
    obtain ⟨hW2, hf2⟩ := sq_W_save hW1 hI
    have hrows2 := sq_rows_sv hinj (p := p) (q := q) hrows1
    generalize sq_svS S1 (g 139) (fun j => sq_D g (2 + j)) (sq_D g 0) p q = S2 at hW2 hf2 hrows2 ⊢
    obtain ⟨⟨⟨kd_x, rf_x_0, rf_x_1, rf_x_2, rf_x_3⟩, hTl, hHl, hinj⟩, ⟨hT, h4, hT1⟩, hK3, ⟨hH1, hp6, hH2, hq6, hQ⟩, hX, hB⟩ := id hW2
    have kd_t := hT.1.1
    have rf_t_4 := hT.1.2.2.2.2.1.1
    have rf_t_5 := hT.1.2.2.2.2.2.1.1
    have hol := hT.1.2.2.2.2.1.2
    have kd_o := hol.1
    have hset := hT.1.2.2.2.2.2.1.2
    have kd_se := hset.1
    have kd_tx := hX.1
    have kd_hi := hHl.1
    have h3 : sj_fi S2 (g 0) 3 = m 9 := hT.2.1.1
    have h6 : sj_fi S2 (g 0) 6 = m 12 := hT.2.1.2.1
    have h7 : sj_fi S2 (g 0) 7 = m 13 := hT.2.1.2.2
    have hRo := hT.2.2.2.2.1
    obtain ⟨h9, hn8⟩ := id hI.1
    have hN28 := hI.2.1.2
    have hv := sj_inv_oav hI
    refine sj_aload_n C 32 rfl dX6_work_31 rfl rfl ?_
    refine sj_getr C 35 rfl fd_X6_19 dX6_work_32 kd_x rf_x_1 ?_
    refine sj_callVv C 38 rfl dX6_work_35 cv_X6_170 rfl (ct_X4_forgetStop _ hT.1) rfl rfl rfl ⟨_, _, kd_t, rfl, rfl, by decide⟩ ⟨rfl, rfl⟩ ?_
    have hT3 := sq_T_stop hT (sq_P_F (by omega)) hI (-1) (-1)
    have hW3 := sq_W_main hW2 (sq_fr_tr (sq_fr_fi 6 _ (sq_Pi (sq_D g 0) (i := 0))) (sq_fr_fi 7 _ (sq_Pi (sq_D g 0) (i := 0)))) hT3 (hK3 0 (by omega))
    have hrows3 := sq_rows_st hinj (v := -1) (w := -1) hrows2
    refine sj_iconstv C (0) 39 rfl dX6_work_38 rfl ?_
    refine sj_istore_n_1 C 40 rfl dX6_work_39 rfl rfl ?_
    exact cut_40 0 m _ hstart (Nat.zero_le _) hI hu hW3 hrows3 (sq_fr_tr hf0 (sq_fr_tr hf2 (sq_fr_up (sq_fr_tr (sq_fr_fi 6 _ (sq_Pi (sq_D g 0) (i := 0))) (sq_fr_fi 7 _ (sq_Pi (sq_D g 0) (i := 0)))) (sq_P_C (by omega)))))
  · exact absurd c_7 (by rw [show sq_ok n WS.1 = true from hcomp]; decide)
