/-! THE LAW'S BODY: its loop, its start -/
theorem lw_ge {i Lx : Nat} (hi : i ≤ 5000) (hL : Lx ≤ 2048) : (nI Lx - 4 < nI i) ↔ Lx < i + 4 := by
  have e1 : (nI Lx).toInt = (Lx : Int) := nI_toInt (by omega)
  have e2 : (nI i).toInt = (i : Int) := nI_toInt (by omega)
  have e4 : ((4 : Int32)).toInt = 4 := rfl
  have e3 : (nI Lx - 4).toInt = (Lx : Int) - 4 := by
    rw [sj_ti_sub (by rw [e1]; omega) (by rw [e1]; omega) (by decide) (by decide), e1, e4]
  rw [sj_ltT, e3, e2]
  omega
set_option maxRecDepth 100000 in
set_option maxHeartbeats 1000000 in
theorem lw_loop {X : sj_X} {nm : String} (C : sj_C X (mL_law nm)) (hN : sj_HN X) (hl : X.2.1.stackTraces = false) {b Lx : Nat} {xs : Nat → Int32} (hT : sj_Scr X b Lx xs) (hLx : Lx ≤ 2048) (hR : sj_RL X b) {g : Nat → Nat} {o : Nat} (hgo : ∀ i, i < 160 → g i ≠ o) : ∀ (n i : Nat), Lx + 1 ≤ i + n → i ≤ Lx → ∀ (S : sj_St) (cl sl : Nat), sq_ZZ S g o → cl ≤ 300 + 10 * i → sl ≤ 20000 + 200 * i → ∀ o5 o6 o7 o8 : Option Value, sj_G X S cl sl [some (.ref b), some (.ref (g 141)), some (.ref (g 142)), some (.ref o), some (.int (nI i)), o5, o6, o7, o8] 23 [] := by
  intro n
  induction n with
  | zero =>
    intro i h1 h2
    exact absurd h1 (by omega)
  | succ n ih =>
    intro i h1 h2 S cl sl hZZ hc hs o5 o6 o7 o8
    refine sj_iload C 25 rfl dL_law_23 rfl ?_
    refine sj_aload_n C 26 rfl dL_law_25 rfl rfl ?_
    refine sj_xlen C 27 rfl dL_law_26 hT ?_
    refine sj_iconstv C (4) 28 rfl dL_law_27 rfl ?_
    refine sj_isub C 29 rfl dL_law_28 ?_
    refine sj_icmp_gt C 1660 32 rfl rfl dL_law_29 (fun c => ?_) (fun c => ?_)
    · refine sj_iconstv C (1) 1661 rfl dL_law_1660 rfl ?_
      exact sj_lret_law C hR (by omega) (by omega) dL_law_1661
    · have hi : i + 4 ≤ Lx := by
        rcases Nat.lt_or_ge Lx (i + 4) with h | h
        · exact absurd ((lw_ge (by omega) hLx).mpr h) c
        · exact h
      have hL31 : Lx < 2 ^ 31 := by omega
      have hc9 : cl ≤ 600000 := by omega
      have hs9 : sl ≤ 7290000 := by omega
      have K : ∀ (U : sj_St) (cl2 sl2 : Nat) (o5 o6 o7 o8 : Option Value), sq_ZZ U g o → cl2 ≤ cl + 10 → sl2 ≤ sl + 200 → sj_G X U cl2 sl2 [some (.ref b), some (.ref (g 141)), some (.ref (g 142)), some (.ref o), some (.int (nI i)), o5, o6, o7, o8] 1654 [] := by
        intro U cl2 sl2 o5 o6 o7 o8 hU h3 h4
        refine sj_iinc_4 C 1657 rfl dL_law_1654 rfl rfl ?_
        rw [show nI i + Int32.ofInt 4 = nI (i + 4) from nI_add i 4]
        refine sj_goto C 23 rfl dL_law_1657 ?_
        exact ih (i + 4) (by omega) hi U cl2 sl2 hU (by omega) (by omega) o5 o6 o7 o8
      clear ih
      obtain ⟨⟨m, hsv, ms, p, q, Q, nn, B, hZ⟩, ho⟩ := id hZZ
      refine sj_aload_n C 33 rfl dL_law_32 rfl rfl ?_
      refine sj_iload C 35 rfl dL_law_33 rfl ?_
      refine sj_xld C 36 rfl dL_law_35 hT (show i < Lx by omega) hL31 ?_
      refine sj_bipush C (31) 38 rfl dL_law_36 (by decide) ?_
      refine sj_iand C 39 rfl dL_law_38 ?_
      obtain ⟨j, hj, ej⟩ := pk_andE (xs i) (m := 31) 5 (by decide)
      rw [ej]
      clear ej
      rcases (show j = 0 ∨ j = 1 ∨ j = 2 ∨ j = 3 ∨ j = 4 ∨ j = 5 ∨ j = 6 ∨ j = 7 ∨ j = 8 ∨ j = 9 ∨ j = 10 ∨ j = 11 ∨ j = 12 ∨ j = 13 ∨ j = 14 ∨ j = 15 ∨ j = 16 ∨ j = 17 ∨ j = 18 ∨ j = 19 ∨ j = 20 ∨ j = 21 ∨ j = 22 ∨ j = 23 ∨ j = 24 ∨ j = 25 ∨ 26 ≤ j by omega) with rfl | rfl | rfl | rfl | rfl | rfl | rfl | rfl | rfl | rfl | rfl | rfl | rfl | rfl | rfl | rfl | rfl | rfl | rfl | rfl | rfl | rfl | rfl | rfl | rfl | rfl | h26
      · exact sj_tableIn C 156 dL_law_39 (by decide) (by decide) (off := 117) rfl rfl (lw_c0 C hN hl hZ ho hgo hT hi hL31 hc9 hs9 K o5 o6 o7 o8)
      · exact sj_tableIn C 212 dL_law_39 (by decide) (by decide) (off := 173) rfl rfl (lw_c1 C hN hl hZ ho hgo hT hi hL31 hc9 hs9 K o5 o6 o7 o8)
      · exact sj_tableIn C 268 dL_law_39 (by decide) (by decide) (off := 229) rfl rfl (lw_c2 C hN hl hZ ho hgo hT hi hL31 hc9 hs9 K o5 o6 o7 o8)
      · exact sj_tableIn C 324 dL_law_39 (by decide) (by decide) (off := 285) rfl rfl (lw_c3 C hN hl hZ ho hgo hT hi hL31 hc9 hs9 K o5 o6 o7 o8)
      · exact sj_tableIn C 392 dL_law_39 (by decide) (by decide) (off := 353) rfl rfl (lw_c4 C hN hl hZ ho hgo hT hi hL31 hc9 hs9 K o5 o6 o7 o8)
      · exact sj_tableIn C 488 dL_law_39 (by decide) (by decide) (off := 449) rfl rfl (lw_c5 C hN hl hZ ho hgo hT hi hL31 hc9 hs9 K o5 o6 o7 o8)
      · exact sj_tableIn C 556 dL_law_39 (by decide) (by decide) (off := 517) rfl rfl (lw_c6 C hN hl hZ ho hgo hT hi hL31 hc9 hs9 K o5 o6 o7 o8)
      · exact sj_tableIn C 612 dL_law_39 (by decide) (by decide) (off := 573) rfl rfl (lw_c7 C hN hl hZ ho hgo hT hi hL31 hc9 hs9 K o5 o6 o7 o8)
      · exact sj_tableIn C 625 dL_law_39 (by decide) (by decide) (off := 586) rfl rfl (lw_c8 C hN hl hZ ho hgo hT hi hL31 hc9 hs9 K o5 o6 o7 o8)
      · exact sj_tableIn C 666 dL_law_39 (by decide) (by decide) (off := 627) rfl rfl (lw_c9 C hN hl hZ ho hgo hT hi hL31 hc9 hs9 K o5 o6 o7 o8)
      · exact sj_tableIn C 710 dL_law_39 (by decide) (by decide) (off := 671) rfl rfl (lw_c10 C hN hl hZ ho hgo hT hi hL31 hc9 hs9 K o5 o6 o7 o8)
      · exact sj_tableIn C 766 dL_law_39 (by decide) (by decide) (off := 727) rfl rfl (lw_c11 C hN hl hZ ho hgo hT hi hL31 hc9 hs9 K o5 o6 o7 o8)
      · exact sj_tableIn C 810 dL_law_39 (by decide) (by decide) (off := 771) rfl rfl (lw_c12 C hN hl hZ ho hgo hT hi hL31 hc9 hs9 K o5 o6 o7 o8)
      · exact sj_tableIn C 823 dL_law_39 (by decide) (by decide) (off := 784) rfl rfl (lw_c13 C hN hl hZ ho hgo hT hi hL31 hc9 hs9 K o5 o6 o7 o8)
      · exact sj_tableIn C 867 dL_law_39 (by decide) (by decide) (off := 828) rfl rfl (lw_c14 C hN hl hZ ho hgo hT hi hL31 hc9 hs9 K o5 o6 o7 o8)
      · exact sj_tableIn C 935 dL_law_39 (by decide) (by decide) (off := 896) rfl rfl (lw_c15 C hN hl hZ ho hgo hT hi hL31 hc9 hs9 K o5 o6 o7 o8)
      · exact sj_tableIn C 1015 dL_law_39 (by decide) (by decide) (off := 976) rfl rfl (lw_c16 C hN hl hZ ho hgo hT hi hL31 hc9 hs9 K o5 o6 o7 o8)
      · exact sj_tableIn C 1083 dL_law_39 (by decide) (by decide) (off := 1044) rfl rfl (lw_c17 C hN hl hZ ho hgo hT hi hL31 hc9 hs9 K o5 o6 o7 o8)
      · exact sj_tableIn C 1163 dL_law_39 (by decide) (by decide) (off := 1124) rfl rfl (lw_c18 C hN hl hZ ho hgo hT hi hL31 hc9 hs9 K o5 o6 o7 o8)
      · exact sj_tableIn C 1231 dL_law_39 (by decide) (by decide) (off := 1192) rfl rfl (lw_c19 C hN hl hZ ho hgo hT hi hL31 hc9 hs9 K o5 o6 o7 o8)
      · exact sj_tableIn C 1287 dL_law_39 (by decide) (by decide) (off := 1248) rfl rfl (lw_c20 C hN hl hZ ho hgo hT hi hL31 hc9 hs9 K o5 o6 o7 o8)
      · exact sj_tableIn C 1383 dL_law_39 (by decide) (by decide) (off := 1344) rfl rfl (lw_c21 C hN hl hZ ho hgo hT hi hL31 hc9 hs9 K o5 o6 o7 o8)
      · exact sj_tableIn C 1439 dL_law_39 (by decide) (by decide) (off := 1400) rfl rfl (lw_c22 C hN hl hZ ho hgo hT hi hL31 hc9 hs9 K o5 o6 o7 o8)
      · exact sj_tableIn C 1519 dL_law_39 (by decide) (by decide) (off := 1480) rfl rfl (lw_c23 C hN hl hZ ho hgo hT hi hL31 hc9 hs9 K o5 o6 o7 o8)
      · exact sj_tableIn C 1599 dL_law_39 (by decide) (by decide) (off := 1560) rfl rfl (lw_c24 C hN hl hZ ho hgo hT hi hL31 hc9 hs9 K o5 o6 o7 o8)
      · exact sj_tableIn C 1640 dL_law_39 (by decide) (by decide) (off := 1601) rfl rfl (lw_c25 C hN hl hZ ho hgo hT hi hL31 hc9 hs9 K o5 o6 o7 o8)
      · have e9 : (nI j).toInt = (j : Int) := nI_toInt (by omega)
        refine sj_tableOut C 1654 dL_law_39 (Or.inr (by rw [e9]; omega)) rfl ?_
        exact K S cl sl o5 o6 o7 o8 hZZ (by omega) (by omega)
/-- the empty world -/
def sj_S0 : sj_St := (fun _ => none, fun _ _ => none, fun _ => 0, fun _ _ => 0, fun _ _ => 0, fun _ _ => none, fun _ => 0, fun _ _ => 0)
set_option maxRecDepth 100000 in
set_option maxHeartbeats 400000 in
theorem lw_body {X : sj_X} {nm : String} (C : sj_C X (mL_law nm)) (hN : sj_HN X) (hl : X.2.1.stackTraces = false) {b Lx : Nat} {xs : Nat → Int32} (hT : sj_Scr X b Lx xs) (hLx : Lx ≤ 2048) (hR : sj_RL X b) : sj_G X sj_S0 0 0 [some (.ref b), none, none, none, none, none, none, none, none] 0 [] := by
  refine sj_new C 3 rfl kk_X6 dL_law_0 cw_new_8 rfl (fun a fa => ?_)
  refine sj_dup C 4 rfl dL_law_3 rfl ?_
  refine sj_callI C 7 rfl dL_law_4 cw_L_83 rfl (ct_X6_init _ (sj_kd_nO sj_S0 a 6)) rfl rfl rfl rfl rfl (fun v T hp => ?_)
  obtain ⟨rfl, L, h6⟩ := hp
  refine sj_astore_n_1 C 8 rfl dL_law_7 rfl rfl ?_
  refine sj_new C 11 rfl kk_X7 dL_law_8 cw_new_84 rfl (fun h fh => ?_)
  refine sj_dup C 12 rfl dL_law_11 rfl ?_
  refine sj_callI C 15 rfl dL_law_12 cw_L_86 rfl (ct_X7_init _ (sj_kd_nO T h 7)) rfl rfl rfl rfl rfl (fun v T2 hp => ?_)
  obtain ⟨rfl, LM, h7⟩ := hp
  refine sj_astore_n_2 C 16 rfl dL_law_15 rfl rfl ?_
  refine sj_iconstv C (nI 1) 17 rfl dL_law_16 rfl ?_
  refine sj_newl (n := 1) C 19 rfl dL_law_17 cw_arr (by omega) rfl (fun o fo => ?_)
  refine sj_astore_n_3 C 20 rfl dL_law_19 rfl rfl ?_
  refine sj_iconstv C (nI 0) 21 rfl dL_law_20 rfl ?_
  refine sj_istore_4 C 23 rfl dL_law_21 rfl rfl ?_
  obtain ⟨g, e1, e2, hgo, B, hZ⟩ := sq_Z_first (sj_kd_nO sj_S0 a 6) h6 fh h7 (sq_xp_nL (n := 1) fo) fo
  subst e1
  subst e2
  exact lw_loop C hN hl hT hLx hR hgo (Lx + 1) 0 (by omega) (by omega) _ _ _ ⟨⟨_, _, _, _, _, _, _, B, hZ⟩, sj_ou_nL T2 o⟩ (Nat.le_of_ble_eq_true rfl) (Nat.le_of_ble_eq_true rfl) none none none none
