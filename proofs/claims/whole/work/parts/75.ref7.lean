/-! CONSTRUCTORS: the reference -/
/-- the first state -/
def sj_m0 : Nat → Int32 := (upd (upd (upd (upd (upd (upd (upd (upd (upd (upd (upd (fun _ => 0) 0 (4)) 1 (10)) 2 (3)) 3 (20)) 4 (8)) 5 (6)) 6 (40)) 7 (2)) 8 (4)) 12 (-1)) 13 (-1))
theorem sq_fx_nA {S : sj_St} {a ca f r n : Nat} (ka : sj_kd S a = some ca) (fr : sj_kd S r = none) : sq_fx S a ca f r [] (sj_wRf (sj_nA S r n) a f (some r)) ∧ sj_kd (sj_wRf (sj_nA S r n) a f (some r)) r = some 8 ∧ sj_il (sj_wRf (sj_nA S r n) a f (some r)) r = n ∧ sj_ia (sj_wRf (sj_nA S r n) a f (some r)) r = fun _ => 0 := ⟨sq_fx_mk ka (sq_xp_nA fr) (sq_fl_1 fr (sj_up_self _ _ _)), sj_up_self _ _ _, sj_up_self _ _ _, sj_up_self _ _ _⟩
theorem sq_N7_mk {S U1 U2 U3 U4 U5 U6 U7 T : sj_St} {a r1 r2 r3 r4 r5 r6 r7 : Nat} (ka : sj_kd S a = some 7) (f1 : sq_fx S a 7 1 r1 [] U1) (k1 : sj_kd U1 r1 = some 8) (l1 : sj_il U1 r1 = 434) (f2 : sq_fx U1 a 7 2 r2 [] U2) (k2 : sj_kd U2 r2 = some 8) (l2 : sj_il U2 r2 = 434) (f3 : sq_fx U2 a 7 3 r3 [] U3) (k3 : sj_kd U3 r3 = some 8) (l3 : sj_il U3 r3 = 2604) (f4 : sq_fx U3 a 7 5 r4 [] U4) (k4 : sj_kd U4 r4 = some 8) (l4 : sj_il U4 r4 = 434) (f5 : sq_fx U4 a 7 7 r5 [] U5) (k5 : sj_kd U5 r5 = some 8) (l5 : sj_il U5 r5 = 60) (f6 : sq_fx U5 a 7 13 r6 [] U6) (k6 : sj_kd U6 r6 = some 8) (l6 : sj_il U6 r6 = 40) (f7 : sq_fx U6 a 7 15 r7 [] U7) (k7 : sj_kd U7 r7 = some 8) (l7 : sj_il U7 r7 = 8) (w : sj_ia U1 r1 = fun _ => 0) (hT : T = sj_sIa U7 r1 sj_m0) : (∃ L : List Nat, L.length = 7 ∧ sq_fl S L T ∧ (sj_kd T a = some 7 ∧ (sj_rf T a 1 = some (L.getD 0 0) ∧ sj_kd T (L.getD 0 0) = some 8 ∧ sj_il T (L.getD 0 0) = 434) ∧ (sj_rf T a 2 = some (L.getD 1 0) ∧ sj_kd T (L.getD 1 0) = some 8 ∧ sj_il T (L.getD 1 0) = 434) ∧ (sj_rf T a 3 = some (L.getD 2 0) ∧ sj_kd T (L.getD 2 0) = some 8 ∧ sj_il T (L.getD 2 0) = 2604) ∧ (sj_rf T a 5 = some (L.getD 3 0) ∧ sj_kd T (L.getD 3 0) = some 8 ∧ sj_il T (L.getD 3 0) = 434) ∧ (sj_rf T a 7 = some (L.getD 4 0) ∧ sj_kd T (L.getD 4 0) = some 8 ∧ sj_il T (L.getD 4 0) = 60) ∧ (sj_rf T a 13 = some (L.getD 5 0) ∧ sj_kd T (L.getD 5 0) = some 8 ∧ sj_il T (L.getD 5 0) = 40) ∧ (sj_rf T a 15 = some (L.getD 6 0) ∧ sj_kd T (L.getD 6 0) = some 8 ∧ sj_il T (L.getD 6 0) = 8)) ∧ sj_ia T (L.getD 0 0) = sj_m0 ∧ sj_fi T a = sj_fi S a ∧ sq_xp (fun b => b = a) S T) := by
  have e1 := f1.1.2
  have e2 := f2.1.2
  have e3 := f3.1.2
  have e4 := f4.1.2
  have e5 := f5.1.2
  have e6 := f6.1.2
  have x1 := f1.2.2.2.2
  have x2 := f2.2.2.2.2
  have x3 := f3.2.2.2.2
  have x4 := f4.2.2.2.2
  have x5 := f5.2.2.2.2
  have x6 := f6.2.2.2.2
  have x7 := f7.2.2.2.2
  have q1 := f1.1.1
  have q2 := sq_fl_tr q1 x1 f2.1.1 x2
  have y2 := sq_xp_tr x1 x2
  have q3 := sq_fl_tr q2 y2 f3.1.1 x3
  have y3 := sq_xp_tr y2 x3
  have q4 := sq_fl_tr q3 y3 f4.1.1 x4
  have y4 := sq_xp_tr y3 x4
  have q5 := sq_fl_tr q4 y4 f5.1.1 x5
  have y5 := sq_xp_tr y4 x5
  have q6 := sq_fl_tr q5 y5 f6.1.1 x6
  have y6 := sq_xp_tr y5 x6
  have q7 := sq_fl_tr q6 y6 f7.1.1 x7
  have y7 := sq_xp_tr y6 x7
  have z7 : sq_xp (fun b => b = a) U7 U7 := sq_xp_id
  have z6 : sq_xp (fun b => b = a) U6 U7 := sq_xp_tr x7 z7
  have z5 : sq_xp (fun b => b = a) U5 U7 := sq_xp_tr x6 z6
  have z4 : sq_xp (fun b => b = a) U4 U7 := sq_xp_tr x5 z5
  have z3 : sq_xp (fun b => b = a) U3 U7 := sq_xp_tr x4 z4
  have z2 : sq_xp (fun b => b = a) U2 U7 := sq_xp_tr x3 z3
  have z1 : sq_xp (fun b => b = a) U1 U7 := sq_xp_tr x2 z2
  have n1 : ¬ (fun b => b = a) r1 := sq_fx_ne f1 ka List.mem_cons_self
  have n2 : ¬ (fun b => b = a) r2 := sq_fx_ne f2 e1 List.mem_cons_self
  have n3 : ¬ (fun b => b = a) r3 := sq_fx_ne f3 e2 List.mem_cons_self
  have n4 : ¬ (fun b => b = a) r4 := sq_fx_ne f4 e3 List.mem_cons_self
  have n5 : ¬ (fun b => b = a) r5 := sq_fx_ne f5 e4 List.mem_cons_self
  have n6 : ¬ (fun b => b = a) r6 := sq_fx_ne f6 e5 List.mem_cons_self
  have n7 : ¬ (fun b => b = a) r7 := sq_fx_ne f7 e6 List.mem_cons_self
  have g1 : sj_rf U7 a 1 = some r1 := ((f7.2.2.1 1 (by omega)).trans ((f6.2.2.1 1 (by omega)).trans ((f5.2.2.1 1 (by omega)).trans ((f4.2.2.1 1 (by omega)).trans ((f3.2.2.1 1 (by omega)).trans ((f2.2.2.1 1 (by omega)).trans f1.2.1))))))
  have g2 : sj_rf U7 a 2 = some r2 := ((f7.2.2.1 2 (by omega)).trans ((f6.2.2.1 2 (by omega)).trans ((f5.2.2.1 2 (by omega)).trans ((f4.2.2.1 2 (by omega)).trans ((f3.2.2.1 2 (by omega)).trans f2.2.1)))))
  have g3 : sj_rf U7 a 3 = some r3 := ((f7.2.2.1 3 (by omega)).trans ((f6.2.2.1 3 (by omega)).trans ((f5.2.2.1 3 (by omega)).trans ((f4.2.2.1 3 (by omega)).trans f3.2.1))))
  have g4 : sj_rf U7 a 5 = some r4 := ((f7.2.2.1 5 (by omega)).trans ((f6.2.2.1 5 (by omega)).trans ((f5.2.2.1 5 (by omega)).trans f4.2.1)))
  have g5 : sj_rf U7 a 7 = some r5 := ((f7.2.2.1 7 (by omega)).trans ((f6.2.2.1 7 (by omega)).trans f5.2.1))
  have g6 : sj_rf U7 a 13 = some r6 := ((f7.2.2.1 13 (by omega)).trans f6.2.1)
  have g7 : sj_rf U7 a 15 = some r7 := f7.2.1
  have hm0 : sj_ia T r1 = sj_m0 := by
    rw [hT]
    exact sj_up_self _ _ _
  have hl : sq_fl S ((r1 :: []) ++ (r2 :: []) ++ (r3 :: []) ++ (r4 :: []) ++ (r5 :: []) ++ (r6 :: []) ++ (r7 :: [])) T := by
    rw [hT]
    exact q7
  refine ⟨_, rfl, hl, ?_, hm0, ?_, ?_⟩
  · rw [hT]
    exact ⟨f7.1.2, ⟨g1, sq_x_k z1 k1, (sq_x_il z1 k1 n1).trans l1⟩, ⟨g2, sq_x_k z2 k2, (sq_x_il z2 k2 n2).trans l2⟩, ⟨g3, sq_x_k z3 k3, (sq_x_il z3 k3 n3).trans l3⟩, ⟨g4, sq_x_k z4 k4, (sq_x_il z4 k4 n4).trans l4⟩, ⟨g5, sq_x_k z5 k5, (sq_x_il z5 k5 n5).trans l5⟩, ⟨g6, sq_x_k z6 k6, (sq_x_il z6 k6 n6).trans l6⟩, ⟨g7, sq_x_k z7 k7, (sq_x_il z7 k7 n7).trans l7⟩⟩
  · rw [hT]
    exact (f7.2.2.2.1.trans (f6.2.2.2.1.trans (f5.2.2.2.1.trans (f4.2.2.2.1.trans (f3.2.2.2.1.trans (f2.2.2.2.1.trans f1.2.2.2.1))))))
  · rw [hT]
    refine sq_xp_tq (Q := fun b => b = r1) y7 (sq_xp_fr (sq_fr_ia _ rfl)) (fun b c hb e => ?_)
    have e' : b = r1 := e
    have h9 := (f1.1.1.1 r1 List.mem_cons_self).1
    rw [← e', hb] at h9
    cases h9
set_option maxRecDepth 100000 in
set_option maxHeartbeats 400000 in
theorem ct_X7_init (l : Launch) {S : sj_St} {a : Nat} (kd_a0 : sj_kd S a = some 7) : sj_Ctr l mX7_init [.ref a] S (fun v T => v = none ∧ (∃ L : List Nat, L.length = 7 ∧ sq_fl S L T ∧ (sj_kd T a = some 7 ∧ (sj_rf T a 1 = some (L.getD 0 0) ∧ sj_kd T (L.getD 0 0) = some 8 ∧ sj_il T (L.getD 0 0) = 434) ∧ (sj_rf T a 2 = some (L.getD 1 0) ∧ sj_kd T (L.getD 1 0) = some 8 ∧ sj_il T (L.getD 1 0) = 434) ∧ (sj_rf T a 3 = some (L.getD 2 0) ∧ sj_kd T (L.getD 2 0) = some 8 ∧ sj_il T (L.getD 2 0) = 2604) ∧ (sj_rf T a 5 = some (L.getD 3 0) ∧ sj_kd T (L.getD 3 0) = some 8 ∧ sj_il T (L.getD 3 0) = 434) ∧ (sj_rf T a 7 = some (L.getD 4 0) ∧ sj_kd T (L.getD 4 0) = some 8 ∧ sj_il T (L.getD 4 0) = 60) ∧ (sj_rf T a 13 = some (L.getD 5 0) ∧ sj_kd T (L.getD 5 0) = some 8 ∧ sj_il T (L.getD 5 0) = 40) ∧ (sj_rf T a 15 = some (L.getD 6 0) ∧ sj_kd T (L.getD 6 0) = some 8 ∧ sj_il T (L.getD 6 0) = 8)) ∧ sj_ia T (L.getD 0 0) = sj_m0 ∧ sj_fi T a = sj_fi S a ∧ sq_xp (fun b => b = a) S T)) := by
  refine sj_start ([some (.ref a)]) (by decide +kernel) rfl rfl (fun X hX C hR => ?_)
  subst hX
  have kd_a := kd_a0
  refine sj_aload_n C 1 rfl dX7_init_0 rfl rfl ?_
  refine sj_objI C 4 rfl dX7_init_1 (wr_5 _ (List.mem_of_getElem? (i := 20) (by decide +kernel))) rfl ?_
  refine sj_aload_n C 5 rfl dX7_init_4 rfl rfl ?_
  refine sj_sipush C (434) 8 rfl dX7_init_5 (by decide) ?_
  rw [show (434 : Int32) = nI 434 from rfl]
  refine sj_newa C 10 rfl dX7_init_8 (wr_2 _ (List.mem_of_getElem? (i := 18) (by decide +kernel))) (by omega) rfl (fun a_8 fr_8 => ?_)
  refine sj_putRF (v := some a_8) C 13 rfl fd_X7_7 dX7_init_10 rfl rfl rfl (fun _ _ _ h => by cases h; rfl) (sj_noN _ _ (by decide +kernel)) (sq_x_k (sq_xp_nA (P := fun _ => False) fr_8) kd_a) ?_
  obtain ⟨f1, k1, l1, z1⟩ := sq_fx_nA (f := 1) (n := 434) kd_a fr_8
  generalize sj_wRf (sj_nA S a_8 434) a 1 (some a_8) = U1 at f1 k1 l1 z1 ⊢
  have kd_a := f1.1.2
  refine sj_aload_n C 14 rfl dX7_init_13 rfl rfl ?_
  refine sj_sipush C (434) 17 rfl dX7_init_14 (by decide) ?_
  rw [show (434 : Int32) = nI 434 from rfl]
  refine sj_newa C 19 rfl dX7_init_17 (wr_2 _ (List.mem_of_getElem? (i := 18) (by decide +kernel))) (by omega) rfl (fun a_17 fr_17 => ?_)
  refine sj_putRF (v := some a_17) C 22 rfl fd_X7_13 dX7_init_19 rfl rfl rfl (fun _ _ _ h => by cases h; rfl) (sj_noN _ _ (by decide +kernel)) (sq_x_k (sq_xp_nA (P := fun _ => False) fr_17) kd_a) ?_
  obtain ⟨f2, k2, l2, z2⟩ := sq_fx_nA (f := 2) (n := 434) kd_a fr_17
  generalize sj_wRf (sj_nA U1 a_17 434) a 2 (some a_17) = U2 at f2 k2 l2 z2 ⊢
  have kd_a := f2.1.2
  refine sj_aload_n C 23 rfl dX7_init_22 rfl rfl ?_
  refine sj_sipush C (2604) 26 rfl dX7_init_23 (by decide) ?_
  rw [show (2604 : Int32) = nI 2604 from rfl]
  refine sj_newa C 28 rfl dX7_init_26 (wr_2 _ (List.mem_of_getElem? (i := 18) (by decide +kernel))) (by omega) rfl (fun a_26 fr_26 => ?_)
  refine sj_putRF (v := some a_26) C 31 rfl fd_X7_16 dX7_init_28 rfl rfl rfl (fun _ _ _ h => by cases h; rfl) (sj_noN _ _ (by decide +kernel)) (sq_x_k (sq_xp_nA (P := fun _ => False) fr_26) kd_a) ?_
  obtain ⟨f3, k3, l3, z3⟩ := sq_fx_nA (f := 3) (n := 2604) kd_a fr_26
  generalize sj_wRf (sj_nA U2 a_26 2604) a 3 (some a_26) = U3 at f3 k3 l3 z3 ⊢
  have kd_a := f3.1.2
  refine sj_aload_n C 32 rfl dX7_init_31 rfl rfl ?_
  refine sj_sipush C (434) 35 rfl dX7_init_32 (by decide) ?_
  rw [show (434 : Int32) = nI 434 from rfl]
  refine sj_newa C 37 rfl dX7_init_35 (wr_2 _ (List.mem_of_getElem? (i := 18) (by decide +kernel))) (by omega) rfl (fun a_35 fr_35 => ?_)
  refine sj_putRF (v := some a_35) C 40 rfl fd_X7_19 dX7_init_37 rfl rfl rfl (fun _ _ _ h => by cases h; rfl) (sj_noN _ _ (by decide +kernel)) (sq_x_k (sq_xp_nA (P := fun _ => False) fr_35) kd_a) ?_
  obtain ⟨f4, k4, l4, z4⟩ := sq_fx_nA (f := 5) (n := 434) kd_a fr_35
  generalize sj_wRf (sj_nA U3 a_35 434) a 5 (some a_35) = U4 at f4 k4 l4 z4 ⊢
  have kd_a := f4.1.2
  refine sj_aload_n C 41 rfl dX7_init_40 rfl rfl ?_
  refine sj_bipush C (60) 43 rfl dX7_init_41 (by decide) ?_
  rw [show (60 : Int32) = nI 60 from rfl]
  refine sj_newa C 45 rfl dX7_init_43 (wr_2 _ (List.mem_of_getElem? (i := 18) (by decide +kernel))) (by omega) rfl (fun a_43 fr_43 => ?_)
  refine sj_putRF (v := some a_43) C 48 rfl fd_X7_22 dX7_init_45 rfl rfl rfl (fun _ _ _ h => by cases h; rfl) (sj_noN _ _ (by decide +kernel)) (sq_x_k (sq_xp_nA (P := fun _ => False) fr_43) kd_a) ?_
  obtain ⟨f5, k5, l5, z5⟩ := sq_fx_nA (f := 7) (n := 60) kd_a fr_43
  generalize sj_wRf (sj_nA U4 a_43 60) a 7 (some a_43) = U5 at f5 k5 l5 z5 ⊢
  have kd_a := f5.1.2
  refine sj_aload_n C 49 rfl dX7_init_48 rfl rfl ?_
  refine sj_bipush C (40) 51 rfl dX7_init_49 (by decide) ?_
  rw [show (40 : Int32) = nI 40 from rfl]
  refine sj_newa C 53 rfl dX7_init_51 (wr_2 _ (List.mem_of_getElem? (i := 18) (by decide +kernel))) (by omega) rfl (fun a_51 fr_51 => ?_)
  refine sj_putRF (v := some a_51) C 56 rfl fd_X7_25 dX7_init_53 rfl rfl rfl (fun _ _ _ h => by cases h; rfl) (sj_noN _ _ (by decide +kernel)) (sq_x_k (sq_xp_nA (P := fun _ => False) fr_51) kd_a) ?_
  obtain ⟨f6, k6, l6, z6⟩ := sq_fx_nA (f := 13) (n := 40) kd_a fr_51
  generalize sj_wRf (sj_nA U5 a_51 40) a 13 (some a_51) = U6 at f6 k6 l6 z6 ⊢
  have kd_a := f6.1.2
  refine sj_aload_n C 57 rfl dX7_init_56 rfl rfl ?_
  refine sj_bipush C (8) 59 rfl dX7_init_57 (by decide) ?_
  rw [show (8 : Int32) = nI 8 from rfl]
  refine sj_newa C 61 rfl dX7_init_59 (wr_2 _ (List.mem_of_getElem? (i := 18) (by decide +kernel))) (by omega) rfl (fun a_59 fr_59 => ?_)
  refine sj_putRF (v := some a_59) C 64 rfl fd_X7_28 dX7_init_61 rfl rfl rfl (fun _ _ _ h => by cases h; rfl) (sj_noN _ _ (by decide +kernel)) (sq_x_k (sq_xp_nA (P := fun _ => False) fr_59) kd_a) ?_
  obtain ⟨f7, k7, l7, z7⟩ := sq_fx_nA (f := 15) (n := 8) kd_a fr_59
  generalize sj_wRf (sj_nA U6 a_59 8) a 15 (some a_59) = U7 at f7 k7 l7 z7 ⊢
  have kd_a := f7.1.2
  have rf_a_1 : sj_rf U7 a 1 = some a_8 := ((f7.2.2.1 1 (by omega)).trans ((f6.2.2.1 1 (by omega)).trans ((f5.2.2.1 1 (by omega)).trans ((f4.2.2.1 1 (by omega)).trans ((f3.2.2.1 1 (by omega)).trans ((f2.2.2.1 1 (by omega)).trans f1.2.1))))))
  have y9 : sq_xp (fun b => b = a) U1 U7 := sq_xp_tr f2.2.2.2.2 (sq_xp_tr f3.2.2.2.2 (sq_xp_tr f4.2.2.2.2 (sq_xp_tr f5.2.2.2.2 (sq_xp_tr f6.2.2.2.2 f7.2.2.2.2))))
  have n9 : ¬ (fun b => b = a) a_8 := sq_fx_ne f1 kd_a0 List.mem_cons_self
  have kd_st : sj_kd U7 a_8 = some 8 := sq_x_k y9 k1
  have il_st : sj_il U7 a_8 = 434 := (sq_x_il y9 k1 n9).trans l1
  have hz : sj_ia U7 a_8 = fun _ => 0 := (sq_x_ia y9 k1 n9).trans z1
  have e0 : U7 = sj_sIa U7 a_8 (fun _ => 0) := (sj_sIa_idv hz).symm
  rw [e0]
  refine sj_aload_n C 65 rfl dX7_init_64 rfl rfl ?_
  refine sj_getr C 68 rfl fd_X7_7 dX7_init_65 kd_a rf_a_1 ?_
  refine sj_iconstv C (0) 69 rfl dX7_init_68 rfl ?_
  refine sj_iconstv C (4) 70 rfl dX7_init_69 rfl ?_
  refine sj_iast C 71 rfl dX7_init_70 kd_st (by show vp_in (nI 0) (sj_il U7 a_8); rw [il_st]; exact vp_in_nI (by omega) (by omega)) ?_
  rw [show Int32.toNatClampNeg (0) = 0 from rfl, sj_wIa_eq, sj_ia_sIa, sj_sIa_sIa]
  refine sj_aload_n C 72 rfl dX7_init_71 rfl rfl ?_
  refine sj_getr C 75 rfl fd_X7_7 dX7_init_72 kd_a rf_a_1 ?_
  refine sj_iconstv C (1) 76 rfl dX7_init_75 rfl ?_
  refine sj_bipush C (10) 78 rfl dX7_init_76 (by decide) ?_
  refine sj_iast C 79 rfl dX7_init_78 kd_st (by show vp_in (nI 1) (sj_il U7 a_8); rw [il_st]; exact vp_in_nI (by omega) (by omega)) ?_
  rw [show Int32.toNatClampNeg (1) = 1 from rfl, sj_wIa_eq, sj_ia_sIa, sj_sIa_sIa]
  refine sj_aload_n C 80 rfl dX7_init_79 rfl rfl ?_
  refine sj_getr C 83 rfl fd_X7_7 dX7_init_80 kd_a rf_a_1 ?_
  refine sj_iconstv C (2) 84 rfl dX7_init_83 rfl ?_
  refine sj_iconstv C (3) 85 rfl dX7_init_84 rfl ?_
  refine sj_iast C 86 rfl dX7_init_85 kd_st (by show vp_in (nI 2) (sj_il U7 a_8); rw [il_st]; exact vp_in_nI (by omega) (by omega)) ?_
  rw [show Int32.toNatClampNeg (2) = 2 from rfl, sj_wIa_eq, sj_ia_sIa, sj_sIa_sIa]
  refine sj_aload_n C 87 rfl dX7_init_86 rfl rfl ?_
  refine sj_getr C 90 rfl fd_X7_7 dX7_init_87 kd_a rf_a_1 ?_
  refine sj_iconstv C (3) 91 rfl dX7_init_90 rfl ?_
  refine sj_bipush C (20) 93 rfl dX7_init_91 (by decide) ?_
  refine sj_iast C 94 rfl dX7_init_93 kd_st (by show vp_in (nI 3) (sj_il U7 a_8); rw [il_st]; exact vp_in_nI (by omega) (by omega)) ?_
  rw [show Int32.toNatClampNeg (3) = 3 from rfl, sj_wIa_eq, sj_ia_sIa, sj_sIa_sIa]
  refine sj_aload_n C 95 rfl dX7_init_94 rfl rfl ?_
  refine sj_getr C 98 rfl fd_X7_7 dX7_init_95 kd_a rf_a_1 ?_
  refine sj_iconstv C (4) 99 rfl dX7_init_98 rfl ?_
  refine sj_bipush C (8) 101 rfl dX7_init_99 (by decide) ?_
  refine sj_iast C 102 rfl dX7_init_101 kd_st (by show vp_in (nI 4) (sj_il U7 a_8); rw [il_st]; exact vp_in_nI (by omega) (by omega)) ?_
  rw [show Int32.toNatClampNeg (4) = 4 from rfl, sj_wIa_eq, sj_ia_sIa, sj_sIa_sIa]
  refine sj_aload_n C 103 rfl dX7_init_102 rfl rfl ?_
  refine sj_getr C 106 rfl fd_X7_7 dX7_init_103 kd_a rf_a_1 ?_
  refine sj_iconstv C (5) 107 rfl dX7_init_106 rfl ?_
  refine sj_bipush C (6) 109 rfl dX7_init_107 (by decide) ?_
  refine sj_iast C 110 rfl dX7_init_109 kd_st (by show vp_in (nI 5) (sj_il U7 a_8); rw [il_st]; exact vp_in_nI (by omega) (by omega)) ?_
  rw [show Int32.toNatClampNeg (5) = 5 from rfl, sj_wIa_eq, sj_ia_sIa, sj_sIa_sIa]
  refine sj_aload_n C 111 rfl dX7_init_110 rfl rfl ?_
  refine sj_getr C 114 rfl fd_X7_7 dX7_init_111 kd_a rf_a_1 ?_
  refine sj_bipush C (6) 116 rfl dX7_init_114 (by decide) ?_
  refine sj_bipush C (40) 118 rfl dX7_init_116 (by decide) ?_
  refine sj_iast C 119 rfl dX7_init_118 kd_st (by show vp_in (nI 6) (sj_il U7 a_8); rw [il_st]; exact vp_in_nI (by omega) (by omega)) ?_
  rw [show Int32.toNatClampNeg (6) = 6 from rfl, sj_wIa_eq, sj_ia_sIa, sj_sIa_sIa]
  refine sj_aload_n C 120 rfl dX7_init_119 rfl rfl ?_
  refine sj_getr C 123 rfl fd_X7_7 dX7_init_120 kd_a rf_a_1 ?_
  refine sj_bipush C (7) 125 rfl dX7_init_123 (by decide) ?_
  refine sj_iconstv C (2) 126 rfl dX7_init_125 rfl ?_
  refine sj_iast C 127 rfl dX7_init_126 kd_st (by show vp_in (nI 7) (sj_il U7 a_8); rw [il_st]; exact vp_in_nI (by omega) (by omega)) ?_
  rw [show Int32.toNatClampNeg (7) = 7 from rfl, sj_wIa_eq, sj_ia_sIa, sj_sIa_sIa]
  refine sj_aload_n C 128 rfl dX7_init_127 rfl rfl ?_
  refine sj_getr C 131 rfl fd_X7_7 dX7_init_128 kd_a rf_a_1 ?_
  refine sj_bipush C (8) 133 rfl dX7_init_131 (by decide) ?_
  refine sj_iconstv C (4) 134 rfl dX7_init_133 rfl ?_
  refine sj_iast C 135 rfl dX7_init_134 kd_st (by show vp_in (nI 8) (sj_il U7 a_8); rw [il_st]; exact vp_in_nI (by omega) (by omega)) ?_
  rw [show Int32.toNatClampNeg (8) = 8 from rfl, sj_wIa_eq, sj_ia_sIa, sj_sIa_sIa]
  refine sj_aload_n C 136 rfl dX7_init_135 rfl rfl ?_
  refine sj_getr C 139 rfl fd_X7_7 dX7_init_136 kd_a rf_a_1 ?_
  refine sj_bipush C (12) 141 rfl dX7_init_139 (by decide) ?_
  refine sj_iconstv C (-1) 142 rfl dX7_init_141 rfl ?_
  refine sj_iast C 143 rfl dX7_init_142 kd_st (by show vp_in (nI 12) (sj_il U7 a_8); rw [il_st]; exact vp_in_nI (by omega) (by omega)) ?_
  rw [show Int32.toNatClampNeg (12) = 12 from rfl, sj_wIa_eq, sj_ia_sIa, sj_sIa_sIa]
  refine sj_aload_n C 144 rfl dX7_init_143 rfl rfl ?_
  refine sj_getr C 147 rfl fd_X7_7 dX7_init_144 kd_a rf_a_1 ?_
  refine sj_bipush C (13) 149 rfl dX7_init_147 (by decide) ?_
  refine sj_iconstv C (-1) 150 rfl dX7_init_149 rfl ?_
  refine sj_iast C 151 rfl dX7_init_150 kd_st (by show vp_in (nI 13) (sj_il U7 a_8); rw [il_st]; exact vp_in_nI (by omega) (by omega)) ?_
  rw [show Int32.toNatClampNeg (13) = 13 from rfl, sj_wIa_eq, sj_ia_sIa, sj_sIa_sIa]
  refine sj_vret C hR rfl rfl dX7_init_151 ?_
  exact ⟨rfl, sq_N7_mk kd_a0 f1 k1 l1 f2 k2 l2 f3 k3 l3 f4 k4 l4 f5 k5 l5 f6 k6 l6 f7 k7 l7 z1 rfl⟩
