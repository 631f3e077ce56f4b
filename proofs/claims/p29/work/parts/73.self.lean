/-! CONSTRUCTORS: the object itself -/
/-- a new object with all its cells -/
def sq_N6 (S : sj_St) (a : Nat) (L : List Nat) (T : sj_St) : Prop := (L.length = 173 ∧ sq_fl S L T) ∧ (sj_kd T a = some 6 ∧ sj_rf T a 0 = some (L.getD 0 0) ∧ sj_rf T a 1 = some (L.getD 11 0) ∧ sj_rf T a 2 = some (L.getD 31 0) ∧ sj_rf T a 3 = some (L.getD 153 0) ∧ sj_fi T a 4 = 0) ∧ (∀ B, sq_xl T (L.getD 0 0) (fun i => L.getD (0 + i) 0) 0 B) ∧ sq_nT T (fun i => L.getD (11 + sq_og i) 0) ∧ sq_nT T (fun i => L.getD (153 + sq_og i) 0) ∧ (sj_kd T (L.getD 31 0) = some 0 ∧ sj_rf T (L.getD 31 0) 0 = some (L.getD 32 0) ∧ sj_kd T (L.getD 32 0) = some 10 ∧ sj_il T (L.getD 32 0) = 6 ∧ sj_fi T (L.getD 31 0) = (fun _ => 0) ∧ ∀ j, j < 6 → sj_ra T (L.getD 32 0) j = some (L.getD (33 + 20 * j) 0) ∧ sq_nT T (fun i => L.getD (33 + 20 * j + sq_og i) 0)) ∧ sq_xp (fun b => b = a) S T
theorem sq_xl_cg {S : sj_St} {x : Nat} {e e' : Nat → Nat} {n : Nat} {B : Nat → Int32} (h : ∀ i, i < 11 → e' i = e i) (g : sq_xl S x e n B) : sq_xl S x e' n B := by
  obtain ⟨g0, ⟨g1, r1⟩, ⟨g2, r2⟩, ⟨g3, r3⟩, ⟨g4, r4⟩, ⟨g5, r5⟩, ⟨g6, g7, g8⟩, gi⟩ := g
  unfold sq_xl
  rw [h 1 (by omega), h 2 (by omega), h 3 (by omega), h 4 (by omega), h 5 (by omega), h 6 (by omega), h 7 (by omega), h 8 (by omega), h 9 (by omega), h 10 (by omega)]
  exact ⟨g0, ⟨g1, r1⟩, ⟨g2, r2⟩, ⟨g3, r3⟩, ⟨g4, r4⟩, ⟨g5, r5⟩, ⟨g6, g7, g8⟩, fun i j hi hj e => gi i j hi hj (by
    rw [h i hi, h j hj] at e
    exact e)⟩
theorem sq_xl_xpP {P : Nat → Prop} {S T : sj_St} (h : sq_xp P S T) {x : Nat} {e : Nat → Nat} {n : Nat} {B : Nat → Int32} (hx : ¬ P x) (he : ∀ i, i < 11 → ¬ P (e i)) (g : sq_xl S x e n B) : sq_xl T x e n B := by
  obtain ⟨g0, ⟨g1, r1⟩, ⟨g2, r2⟩, ⟨g3, r3⟩, ⟨g4, r4⟩, ⟨g5, r5⟩, ⟨g6, g7, g8⟩, gi⟩ := g
  refine ⟨sq_x_k h g0, ⟨(sq_x_rf h g0 hx 0).trans g1, sj_rw_xp h (he 1 (by omega)) (he 2 (by omega)) r1⟩, ⟨(sq_x_rf h g0 hx 4).trans g2, sj_rw_xp h (he 3 (by omega)) (he 4 (by omega)) r2⟩, ⟨(sq_x_rf h g0 hx 6).trans g3, sj_rw_xp h (he 5 (by omega)) (he 6 (by omega)) r3⟩, ⟨(sq_x_rf h g0 hx 7).trans g4, sj_rw_xp h (he 7 (by omega)) (he 8 (by omega)) r4⟩, ⟨(sq_x_rf h g0 hx 8).trans g5, sj_rw_xp h (he 9 (by omega)) (he 10 (by omega)) r5⟩, ⟨(sq_x_fi h g0 hx 1).trans g6, g7, ?_⟩, gi⟩
  rw [sq_x_ia h r1.2.2.1 (he 2 (by omega))]
  exact g8
/-- something made for a field -/
theorem sq_fx_any {S S1 : sj_St} {a ca f r ck : Nat} {L : List Nat} (ka : sj_kd S a = some ca) (fr : sj_kd S r = none) (hl : sq_fl (sj_nO S r ck) L S1) (x1 : sq_xp (fun b => b = r) (sj_nO S r ck) S1) : sq_fx S a ca f r L (sj_wRf S1 a f (some r)) ∧ sq_xp (fun b => b = a) S1 (sj_wRf S1 a f (some r)) ∧ ∀ x, x ∈ r :: L → ¬ (fun b => b = a) x := by
  have hl2 := sq_fl_new fr hl x1
  exact ⟨sq_fx_mk ka (sq_xp_new (sq_xp_nO fr) fr x1) hl2, sq_xp_rf rfl, fun x hx => sq_fl_ne hl2 ka hx⟩
theorem sq_N6_mk {S U1 U2 U3 U4 T : sj_St} {a x t h s : Nat} {Lx Lt Lh Ls : List Nat} (ka : sj_kd S a = some 6) (f1 : sq_fx S a 6 0 x Lx U1) (l1 : Lx.length = 10) (w1 : ∀ B, sq_xl U1 x (fun i => (x :: Lx).getD i 0) 0 B) (f2 : sq_fx U1 a 6 1 t Lt U2) (l2 : Lt.length = 19) (w2 : sq_nT U2 (fun i => (t :: Lt).getD (sq_og i) 0)) (f3 : sq_fx U2 a 6 2 h Lh U3) (l3 : Lh.length = 121) (w3 : (sj_kd U3 h = some 0 ∧ sj_rf U3 h 0 = some (Lh.getD 0 0) ∧ sj_kd U3 (Lh.getD 0 0) = some 10 ∧ sj_il U3 (Lh.getD 0 0) = 6 ∧ sj_fi U3 h = (fun _ => 0)) ∧ ∀ j, j < 6 → sj_ra U3 (Lh.getD 0 0) j = some (Lh.getD (1 + 20 * j) 0) ∧ sq_nT U3 (fun i => Lh.getD (1 + 20 * j + sq_og i) 0)) (f4 : sq_fx U3 a 6 3 s Ls U4) (l4 : Ls.length = 19) (w4 : sq_nT U4 (fun i => (s :: Ls).getD (sq_og i) 0)) (hT : T = sj_wFi U4 a 4 0) : ∃ L : List Nat, sq_N6 S a L T := by
  have k1 := f1.1.2
  have k2 := f2.1.2
  have k3 := f3.1.2
  have x1 := f1.2.2.2.2
  have x2 := f2.2.2.2.2
  have x3 := f3.2.2.2.2
  have x4 := f4.2.2.2.2
  have l12 := sq_fl_tr f1.1.1 x1 f2.1.1 x2
  have x12 := sq_xp_tr x1 x2
  have l13 := sq_fl_tr l12 x12 f3.1.1 x3
  have x13 := sq_xp_tr x12 x3
  have l14 := sq_fl_tr l13 x13 f4.1.1 x4
  have x14 := sq_xp_tr x13 x4
  have x5 : sq_xp (fun b => b = a) U4 T := by
    rw [hT]
    exact sq_xp_fr (sq_fr_fi 4 _ rfl)
  have x45 := sq_xp_tr x4 x5
  have x35 := sq_xp_tr x3 x45
  have x25 := sq_xp_tr x2 x35
  have n1 : ∀ y, y ∈ x :: Lx → ¬ (fun b => b = a) y := fun y hy => sq_fl_ne f1.1.1 ka hy
  have n2 : ∀ y, y ∈ t :: Lt → ¬ (fun b => b = a) y := fun y hy => sq_fl_ne f2.1.1 k1 hy
  have n3 : ∀ y, y ∈ h :: Lh → ¬ (fun b => b = a) y := fun y hy => sq_fl_ne f3.1.1 k2 hy
  have n4 : ∀ y, y ∈ s :: Ls → ¬ (fun b => b = a) y := fun y hy => sq_fl_ne f4.1.1 k3 hy
  have hl5 : sq_fl S ((x :: Lx) ++ (t :: Lt) ++ (h :: Lh) ++ (s :: Ls)) T := by
    rw [hT]
    exact l14
  have c1 : (x :: Lx).length = 11 := by show Lx.length + 1 = 11; omega
  have c2 : (t :: Lt).length = 20 := by show Lt.length + 1 = 20; omega
  have c3 : (h :: Lh).length = 122 := by show Lh.length + 1 = 122; omega
  have c4 : (s :: Ls).length = 20 := by show Ls.length + 1 = 20; omega
  have c12 : ((x :: Lx) ++ (t :: Lt)).length = 31 := by rw [List.length_append]; omega
  have c13 : ((x :: Lx) ++ (t :: Lt) ++ (h :: Lh)).length = 153 := by rw [List.length_append]; omega
  generalize hL : (x :: Lx) ++ (t :: Lt) ++ (h :: Lh) ++ (s :: Ls) = L at hl5
  have g1 : ∀ i, i < 11 → L.getD (0 + i) 0 = (x :: Lx).getD i 0 := fun i hi => by
    rw [← hL, Nat.zero_add, sq_gd_l (by omega), sq_gd_l (by omega), sq_gd_l (by omega)]
  have g2 : ∀ i, i < 20 → L.getD (11 + i) 0 = (t :: Lt).getD i 0 := fun i hi => by
    rw [← hL, sq_gd_l (by omega), sq_gd_l (by omega), sq_gd_r c1]
  have g3 : ∀ i, i < 122 → L.getD (31 + i) 0 = (h :: Lh).getD i 0 := fun i hi => by
    rw [← hL, sq_gd_l (by omega), sq_gd_r c12]
  have g4 : ∀ i, L.getD (153 + i) 0 = (s :: Ls).getD i 0 := fun i => by
    rw [← hL, sq_gd_r c13]
  have e0 : L.getD 0 0 = x := g1 0 (by omega)
  have e11 : L.getD 11 0 = t := g2 0 (by omega)
  have e31 : L.getD 31 0 = h := g3 0 (by omega)
  have e32 : L.getD 32 0 = Lh.getD 0 0 := g3 1 (by omega)
  have e153 : L.getD 153 0 = s := g4 0
  have eh : ∀ i, i < 121 → L.getD (32 + i) 0 = Lh.getD i 0 := fun i hi => by
    have h9 := g3 (i + 1) (by omega)
    rw [show 32 + i = 31 + (i + 1) by omega, h9]
    rfl
  have nh0 : ¬ (fun b => b = a) h := n3 h List.mem_cons_self
  have nh1 : ¬ (fun b => b = a) (Lh.getD 0 0) := n3 _ (List.mem_cons_of_mem _ (sq_gd_mem (by omega)))
  have r4 : sj_rf T a 3 = some s := by rw [hT]; exact f4.2.1
  have r3 : sj_rf T a 2 = some h := by rw [hT]; exact (f4.2.2.1 2 (by omega)).trans f3.2.1
  have r2 : sj_rf T a 1 = some t := by rw [hT]; exact (f4.2.2.1 1 (by omega)).trans ((f3.2.2.1 1 (by omega)).trans f2.2.1)
  have r1 : sj_rf T a 0 = some x := by rw [hT]; exact (f4.2.2.1 0 (by omega)).trans ((f3.2.2.1 0 (by omega)).trans ((f2.2.2.1 0 (by omega)).trans f1.2.1))
  obtain ⟨⟨w31, w32, w33, w34, w35⟩, w36⟩ := w3
  refine ⟨L, ⟨?_, hl5⟩, ⟨?_, ?_, ?_, ?_, ?_, ?_⟩, fun B => ?_, ?_, ?_, ⟨?_, ?_, ?_, ?_, ?_, fun j hj => ?_⟩, sq_xp_tr x14 x5⟩
  · rw [← hL, List.length_append]
    omega
  · rw [hT]; exact f4.1.2
  · rw [e0]; exact r1
  · rw [e11]; exact r2
  · rw [e31]; exact r3
  · rw [e153]; exact r4
  · rw [hT]; exact sj_fi_wFi _ _ _ _
  · rw [e0]
    exact sq_xl_cg (fun i hi => g1 i hi) (sq_xl_xpP x25 (n1 x List.mem_cons_self) (fun i hi => n1 _ (sq_gd_mem (by omega))) (w1 B))
  · exact sq_nT_cg (fun i hi => g2 _ (sq_og_lt hi)) (sq_nT_xp x35 (fun i hi => n2 _ (sq_gd_mem (by have := sq_og_lt hi; omega))) w2)
  · exact sq_nT_cg (fun i hi => g4 _) (sq_nT_xp x5 (fun i hi => n4 _ (sq_gd_mem (by have := sq_og_lt hi; omega))) w4)
  · rw [e31]; exact sq_x_k x45 w31
  · rw [e31, e32]; exact (sq_x_rf x45 w31 nh0 0).trans w32
  · rw [e32]; exact sq_x_k x45 w33
  · rw [e32]; exact (sq_x_il x45 w33 nh1).trans w34
  · rw [e31]; exact ((x45 h 0 w31).2 nh0).2.2.1.trans w35
  · obtain ⟨q1, q2⟩ := w36 j hj
    refine ⟨?_, sq_nT_cg (D := fun i => Lh.getD (1 + 20 * j + sq_og i) 0) (fun i hi => ?_) (sq_nT_xp x45 (fun i hi => n3 _ (List.mem_cons_of_mem _ (sq_gd_mem (by have := sq_og_lt hi; omega)))) q2)⟩
    · rw [e32, sq_x_ra x45 w33 nh1 j, q1, show 33 + 20 * j = 32 + (1 + 20 * j) by omega, eh _ (by omega)]
    · have := sq_og_lt hi
      show L.getD (33 + 20 * j + sq_og i) 0 = Lh.getD (1 + 20 * j + sq_og i) 0
      rw [show 33 + 20 * j + sq_og i = 32 + (1 + 20 * j + sq_og i) by omega, eh _ (by omega)]
set_option maxRecDepth 100000 in
set_option maxHeartbeats 300000 in
theorem ct_X6_init (l : Launch) {S : sj_St} {a : Nat} (kd_a0 : sj_kd S a = some 6) : sj_Ctr l nX6_init [.ref a] S (fun v T => v = none ∧ ∃ L : List Nat, sq_N6 S a L T) := by
  refine sj_start ([some (.ref a)]) (by decide +kernel) rfl rfl (fun X hX C hR => ?_)
  subst hX
  have kd_a := kd_a0
  refine sj_aload_n C 1 rfl dX6_init_0 rfl rfl ?_
  refine sj_objI C 4 rfl dX6_init_1 (wr_1 _ (List.mem_of_getElem? (i := 7) (by decide +kernel))) rfl ?_
  refine sj_aload_n C 5 rfl dX6_init_4 rfl rfl ?_
  refine sj_new C 8 rfl kk_X5 dX6_init_5 (⟨wr_1 _ (List.mem_of_getElem? (i := 10) (by decide +kernel)), wr_1 _ (List.mem_of_getElem? (i := 11) (by decide +kernel)), wr_1 _ (List.mem_of_getElem? (i := 12) (by decide +kernel))⟩) rfl (fun a_5 fr_5 => ?_)
  refine sj_dup C 9 rfl dX6_init_8 rfl ?_
  refine sj_callIN C 12 rfl dX6_init_9 cv_X6_9 rfl (ct_X5_init _ (sj_kd_nO S a_5 5) (sj_up_self _ _ _)) rfl rfl rfl rfl rfl (fun v_9 S_9 hp_9 => ?_)
  obtain ⟨rfl, Lx, lx, qx1, qx2, qx3⟩ := hp_9
  obtain ⟨f1, y1, n1⟩ := sq_fx_any (f := 0) kd_a fr_5 qx1 qx3
  have w1 : ∀ B, sq_xl (sj_wRf S_9 a 0 (some a_5)) a_5 (fun i => (a_5 :: Lx).getD i 0) 0 B := fun B => sq_xl_xpP y1 (n1 _ List.mem_cons_self) (fun i hi => n1 _ (sq_gd_mem (by show i < Lx.length + 1; omega))) (qx2 B)
  have kd_b : sj_kd S_9 a = some 6 := f1.1.2
  refine sj_putRF (v := some a_5) C 15 rfl fd_X6_10 dX6_init_12 rfl rfl rfl (fun _ _ _ h => by cases h; rfl) (sj_noN _ _ (by decide +kernel)) kd_b ?_
  generalize sj_wRf S_9 a 0 (some a_5) = U1 at f1 w1 y1 ⊢
  clear kd_b
  have kd_a := f1.1.2
  refine sj_aload_n C 16 rfl dX6_init_15 rfl rfl ?_
  refine sj_new C 19 rfl kk_X4 dX6_init_16 (⟨wr_1 _ (List.mem_of_getElem? (i := 14) (by decide +kernel)), wr_1 _ (List.mem_of_getElem? (i := 15) (by decide +kernel)), wr_1 _ (List.mem_of_getElem? (i := 16) (by decide +kernel))⟩) rfl (fun a_16 fr_16 => ?_)
  refine sj_dup C 20 rfl dX6_init_19 rfl ?_
  refine sj_callI C 23 rfl dX6_init_20 cv_X6_18 rfl (ct_X4_init _ (sj_kd_nO U1 a_16 4) (sj_up_self _ _ _)) rfl rfl rfl rfl rfl (fun v_20 S_20 hp_20 => ?_)
  obtain ⟨rfl, Lt, lt, qx1, qx2, qx3⟩ := hp_20
  obtain ⟨f2, y2, n2⟩ := sq_fx_any (f := 1) kd_a fr_16 qx1 qx3
  have w2 := sq_nT_xp y2 (fun i hi => n2 _ (sq_gd_mem (by have := sq_og_lt hi; show sq_og i < Lt.length + 1; omega))) qx2
  have kd_b : sj_kd S_20 a = some 6 := f2.1.2
  refine sj_putRF (v := some a_16) C 26 rfl fd_X6_19 dX6_init_23 rfl rfl rfl (fun _ _ _ h => by cases h; rfl) (sj_noN _ _ (by decide +kernel)) kd_b ?_
  generalize sj_wRf S_20 a 1 (some a_16) = U2 at f2 w2 y2 ⊢
  clear kd_b
  have kd_a := f2.1.2
  refine sj_aload_n C 27 rfl dX6_init_26 rfl rfl ?_
  refine sj_new C 30 rfl kk_X0 dX6_init_27 (⟨wr_1 _ (List.mem_of_getElem? (i := 18) (by decide +kernel)), wr_1 _ (List.mem_of_getElem? (i := 19) (by decide +kernel)), wr_1 _ (List.mem_of_getElem? (i := 20) (by decide +kernel))⟩) rfl (fun a_27 fr_27 => ?_)
  refine sj_dup C 31 rfl dX6_init_30 rfl ?_
  refine sj_callI C 34 rfl dX6_init_31 cw_X6_25 rfl (ct_X0_init _ (sj_kd_nO U2 a_27 0)) rfl rfl rfl rfl rfl (fun v_31 S_31 hp_31 => ?_)
  obtain ⟨rfl, Lh, lh, qx1, ⟨z1, z2, z3⟩, qx2, qx4, qx3⟩ := hp_31
  obtain ⟨f3, y3, n3⟩ := sq_fx_any (f := 2) kd_a fr_27 qx1 qx3
  have kd_h : sj_kd S_31 a_27 = some 0 := (qx3 a_27 0 (sj_kd_nO U2 a_27 0)).1
  have m0 : ¬ (fun b => b = a) (Lh.getD 0 0) := n3 _ (List.mem_cons_of_mem _ (sq_gd_mem (by omega)))
  have w3 : (sj_kd (sj_wRf S_31 a 2 (some a_27)) a_27 = some 0 ∧ sj_rf (sj_wRf S_31 a 2 (some a_27)) a_27 0 = some (Lh.getD 0 0) ∧ sj_kd (sj_wRf S_31 a 2 (some a_27)) (Lh.getD 0 0) = some 10 ∧ sj_il (sj_wRf S_31 a 2 (some a_27)) (Lh.getD 0 0) = 6 ∧ sj_fi (sj_wRf S_31 a 2 (some a_27)) a_27 = (fun _ => 0)) ∧ ∀ j, j < 6 → sj_ra (sj_wRf S_31 a 2 (some a_27)) (Lh.getD 0 0) j = some (Lh.getD (1 + 20 * j) 0) ∧ sq_nT (sj_wRf S_31 a 2 (some a_27)) (fun i => Lh.getD (1 + 20 * j + sq_og i) 0) := ⟨⟨kd_h, (sq_x_rf y3 kd_h (n3 _ List.mem_cons_self) 0).trans z1, z2, z3, qx4.trans (sj_up_self _ _ _)⟩, fun j hj => ⟨(qx2 j hj).1, sq_nT_xp y3 (fun i hi => n3 _ (List.mem_cons_of_mem _ (sq_gd_mem (by have := sq_og_lt hi; omega)))) (qx2 j hj).2⟩⟩
  have kd_b : sj_kd S_31 a = some 6 := f3.1.2
  refine sj_putRF (v := some a_27) C 37 rfl fd_X6_26 dX6_init_34 rfl rfl rfl (fun _ _ _ h => by cases h; rfl) (sj_noN _ _ (by decide +kernel)) kd_b ?_
  generalize sj_wRf S_31 a 2 (some a_27) = U3 at f3 w3 y3 ⊢
  clear kd_b
  have kd_a := f3.1.2
  refine sj_aload_n C 38 rfl dX6_init_37 rfl rfl ?_
  refine sj_new C 41 rfl kk_X4 dX6_init_38 (⟨wr_1 _ (List.mem_of_getElem? (i := 14) (by decide +kernel)), wr_1 _ (List.mem_of_getElem? (i := 15) (by decide +kernel)), wr_1 _ (List.mem_of_getElem? (i := 16) (by decide +kernel))⟩) rfl (fun a_38 fr_38 => ?_)
  refine sj_dup C 42 rfl dX6_init_41 rfl ?_
  refine sj_callI C 45 rfl dX6_init_42 cv_X6_18 rfl (ct_X4_init _ (sj_kd_nO U3 a_38 4) (sj_up_self _ _ _)) rfl rfl rfl rfl rfl (fun v_42 S_42 hp_42 => ?_)
  obtain ⟨rfl, Ls, ls, qx1, qx2, qx3⟩ := hp_42
  obtain ⟨f4, y4, n4⟩ := sq_fx_any (f := 3) kd_a fr_38 qx1 qx3
  have w4 := sq_nT_xp y4 (fun i hi => n4 _ (sq_gd_mem (by have := sq_og_lt hi; show sq_og i < Ls.length + 1; omega))) qx2
  have kd_b : sj_kd S_42 a = some 6 := f4.1.2
  refine sj_putRF (v := some a_38) C 48 rfl fd_X6_30 dX6_init_45 rfl rfl rfl (fun _ _ _ h => by cases h; rfl) (sj_noN _ _ (by decide +kernel)) kd_b ?_
  generalize sj_wRf S_42 a 3 (some a_38) = U4 at f4 w4 y4 ⊢
  clear kd_b
  have kd_a := f4.1.2
  refine sj_aload_n C 49 rfl dX6_init_48 rfl rfl ?_
  refine sj_iconstv C (0) 50 rfl dX6_init_49 rfl ?_
  refine sj_putI C 53 rfl fd_X6_33 dX6_init_50 rfl rfl kd_a ?_
  refine sj_vret C hR rfl rfl dX6_init_53 ?_
  exact ⟨rfl, sq_N6_mk kd_a0 f1 lx w1 f2 lt w2 f3 lh w3 f4 ls w4 rfl⟩
