/-! CONSTRUCTORS: rows in fields -/
/-- the cells of L are new, and all of them differ -/
def sq_fl (S : sj_St) (L : List Nat) (T : sj_St) : Prop := (∀ x, x ∈ L → sj_kd S x = none ∧ ∃ c, sj_kd T x = some c) ∧ L.Nodup
theorem sq_fl_0 (S T : sj_St) : sq_fl S [] T := ⟨fun x h => (by cases h), List.nodup_nil⟩
theorem sq_fl_1 {S T : sj_St} {a c : Nat} (h : sj_kd S a = none) (h2 : sj_kd T a = some c) : sq_fl S [a] T := ⟨fun x hx => (List.mem_singleton.mp hx) ▸ ⟨h, c, h2⟩, List.nodup_cons.mpr ⟨fun h => (by cases h), List.nodup_nil⟩⟩
theorem sq_fl_tr {P Q : Nat → Prop} {S T U : sj_St} {L M : List Nat} (h1 : sq_fl S L T) (x1 : sq_xp P S T) (h2 : sq_fl T M U) (x2 : sq_xp Q T U) : sq_fl S (L ++ M) U := by
  refine ⟨fun x hx => ?_, ?_⟩
  · rcases List.mem_append.mp hx with h | h
    · obtain ⟨a, c, hc⟩ := h1.1 x h
      exact ⟨a, c, sq_x_k x2 hc⟩
    · obtain ⟨a, hc⟩ := h2.1 x h
      exact ⟨sq_fb x1 a, hc⟩
  · refine List.nodup_append.mpr ⟨h1.2, h2.2, fun a ha b hb e => ?_⟩
    subst e
    obtain ⟨_, c, hc⟩ := h1.1 a ha
    rw [(h2.1 a hb).1] at hc
    cases hc
theorem sq_fl_ne {S T : sj_St} {L : List Nat} {a c x : Nat} (h : sq_fl S L T) (ha : sj_kd S a = some c) (hx : x ∈ L) : x ≠ a := fun e => by
  rw [e] at hx
  have h1 := (h.1 a hx).1
  rw [ha] at h1
  cases h1
theorem sq_fl_cons {S T : sj_St} {L : List Nat} {a c : Nat} (h : sq_fl S L T) (ha : sj_kd S a = some c) : (a :: L).Nodup := List.nodup_cons.mpr ⟨fun hm => sq_fl_ne h ha hm rfl, h.2⟩
theorem sq_gd_inj {L : List Nat} (h : L.Nodup) {i j : Nat} (hi : i < L.length) (hj : j < L.length) (e : L.getD i 0 = L.getD j 0) : i = j := by
  rw [List.getD_eq_getElem?_getD, List.getD_eq_getElem?_getD, List.getElem?_eq_getElem hi, List.getElem?_eq_getElem hj] at e
  exact (List.getElem?_inj hi h).mp (by rw [List.getElem?_eq_getElem hi, List.getElem?_eq_getElem hj]; exact congrArg some e)
theorem sq_gd_mem {L : List Nat} {i : Nat} (hi : i < L.length) : L.getD i 0 ∈ L := by
  rw [List.getD_eq_getElem?_getD, List.getElem?_eq_getElem hi]
  exact List.getElem_mem hi
theorem sq_gd_l {L M : List Nat} {i : Nat} (hi : i < L.length) : (L ++ M).getD i 0 = L.getD i 0 := by
  rw [List.getD_eq_getElem?_getD, List.getD_eq_getElem?_getD, List.getElem?_append_left hi]
theorem sq_gd_r {L M : List Nat} {n i : Nat} (hn : L.length = n) : (L ++ M).getD (n + i) 0 = M.getD i 0 := by
  rw [List.getD_eq_getElem?_getD, List.getD_eq_getElem?_getD, List.getElem?_append_right (by omega), show n + i - L.length = i by omega]
/-- a field of an object under construction gets a new thing r, made with the new cells L -/
def sq_fx (S : sj_St) (a ca f r : Nat) (L : List Nat) (T : sj_St) : Prop := (sq_fl S (r :: L) T ∧ sj_kd T a = some ca) ∧ sj_rf T a f = some r ∧ (∀ j, j ≠ f → sj_rf T a j = sj_rf S a j) ∧ sj_fi T a = sj_fi S a ∧ sq_xp (fun b => b = a) S T
theorem sq_fx_mk {S S1 : sj_St} {a ca f r : Nat} {L : List Nat} (ka : sj_kd S a = some ca) (hx : sq_xp (fun _ => False) S S1) (hl : sq_fl S (r :: L) S1) : sq_fx S a ca f r L (sj_wRf S1 a f (some r)) := ⟨⟨hl, sq_x_k hx ka⟩, sj_rf_wRf _ _ _ _, fun j hj => (sj_rf_wRn S1 (some r) (Or.inr hj)).trans (sq_x_rf hx ka (fun h => h) j), ((hx a ca ka).2 (fun h => h)).2.2.1, sq_xp_tr (sq_xp_up hx (fun _ _ _ h => h.elim)) (sq_xp_rf rfl)⟩
theorem sq_fl_new {S S1 : sj_St} {r ck : Nat} {L : List Nat} {P : Nat → Prop} (fr : sj_kd S r = none) (hl : sq_fl (sj_nO S r ck) L S1) (hx : sq_xp P (sj_nO S r ck) S1) : sq_fl S (r :: L) S1 := sq_fl_tr (sq_fl_1 fr (sj_kd_nO S r ck)) (sq_xp_nO (P := fun _ => False) fr) hl hx
/-- a row in a field -/
theorem sq_fx_row {S S1 : sj_St} {a ca f r n : Nat} (ka : sj_kd S a = some ca) (fr : sj_kd S r = none) (hr : sq_nr (sj_nO S r 2) r n S1) : ∃ c, sq_fx S a ca f r [c] (sj_wRf S1 a f (some r)) ∧ sj_rw (sj_wRf S1 a f (some r)) r c n ∧ sj_ia (sj_wRf S1 a f (some r)) c = (fun _ => 0) := by
  obtain ⟨c, fc, hrw, hic, x1⟩ := hr
  have hx : sq_xp (fun _ => False) S S1 := sq_xp_new (sq_xp_nO fr) fr x1
  have hl : sq_fl S (r :: [c]) S1 := sq_fl_new fr (sq_fl_1 fc hrw.2.2.1) x1
  refine ⟨c, sq_fx_mk ka hx hl, ⟨hrw.1, ?_, hrw.2.2⟩, hic⟩
  exact (sj_rf_wRn S1 (some r) (Or.inl (sq_ne_none fr ka).symm)).trans hrw.2.1
theorem sq_fx_ne {S T : sj_St} {a ca f r : Nat} {L : List Nat} (h : sq_fx S a ca f r L T) (ka : sj_kd S a = some ca) {x : Nat} (hx : x ∈ r :: L) : ¬ (fun b => b = a) x := sq_fl_ne h.1.1 ka hx
/-- four rows of an Oaths -/
theorem sq_ol_mk {S U1 U2 U3 U4 : sj_St} {a r1 c1 r2 c2 r3 c3 r4 c4 : Nat} (ka : sj_kd S a = some 1) (f1 : sq_fx S a 1 2 r1 [c1] U1) (w1 : sj_rw U1 r1 c1 28) (f2 : sq_fx U1 a 1 3 r2 [c2] U2) (w2 : sj_rw U2 r2 c2 28) (f3 : sq_fx U2 a 1 4 r3 [c3] U3) (w3 : sj_rw U3 r3 c3 28) (f4 : sq_fx U3 a 1 5 r4 [c4] U4) (w4 : sj_rw U4 r4 c4 8) : ∃ L : List Nat, L.length = 8 ∧ sq_fl S L U4 ∧ sq_ol U4 a (fun i => (a :: L).getD i 0) ∧ sj_fi U4 a = sj_fi S a ∧ sq_xp (fun b => b = a) S U4 := by
  have k1 := f1.1.2
  have k2 := f2.1.2
  have k3 := f3.1.2
  have x1 := f1.2.2.2.2
  have x2 := f2.2.2.2.2
  have x3 := f3.2.2.2.2
  have x4 := f4.2.2.2.2
  have l12 := sq_fl_tr f1.1.1 x1 f2.1.1 x2
  have x12 := sq_xp_tr x1 x2
  have l13 := sq_fl_tr l12 x12 f3.1.1 x3
  have x13 := sq_xp_tr x12 x3
  have l14 := sq_fl_tr l13 x13 f4.1.1 x4
  have x14 := sq_xp_tr x13 x4
  have n1 : ∀ x, x ∈ [r1, c1] → ¬ (fun b => b = a) x := fun x hx => sq_fx_ne f1 ka hx
  have n2 : ∀ x, x ∈ [r2, c2] → ¬ (fun b => b = a) x := fun x hx => sq_fx_ne f2 k1 hx
  have n3 : ∀ x, x ∈ [r3, c3] → ¬ (fun b => b = a) x := fun x hx => sq_fx_ne f3 k2 hx
  have w1' : sj_rw U4 r1 c1 28 := sj_rw_xp (sq_xp_tr x2 (sq_xp_tr x3 x4)) (n1 r1 (by simp)) (n1 c1 (by simp)) w1
  have w2' : sj_rw U4 r2 c2 28 := sj_rw_xp (sq_xp_tr x3 x4) (n2 r2 (by simp)) (n2 c2 (by simp)) w2
  have w3' : sj_rw U4 r3 c3 28 := sj_rw_xp x4 (n3 r3 (by simp)) (n3 c3 (by simp)) w3
  have g4 : sj_rf U4 a 5 = some r4 := f4.2.1
  have g3 : sj_rf U4 a 4 = some r3 := (f4.2.2.1 4 (by omega)).trans f3.2.1
  have g2 : sj_rf U4 a 3 = some r2 := (f4.2.2.1 3 (by omega)).trans ((f3.2.2.1 3 (by omega)).trans f2.2.1)
  have g1 : sj_rf U4 a 2 = some r1 := (f4.2.2.1 2 (by omega)).trans ((f3.2.2.1 2 (by omega)).trans ((f2.2.2.1 2 (by omega)).trans f1.2.1))
  refine ⟨_, rfl, l14, ⟨f4.1.2, ⟨g1, w1'⟩, ⟨g2, w2'⟩, ⟨g3, w3'⟩, ⟨g4, w4⟩, fun i j hi hj e => sq_gd_inj (sq_fl_cons l14 ka) hi hj e⟩, ?_, x14⟩
  rw [f4.2.2.2.1, f3.2.2.2.1, f2.2.2.2.1, f1.2.2.2.1]
set_option maxRecDepth 100000 in
set_option maxHeartbeats 150000 in
theorem ct_X1_init (l : Launch) {S : sj_St} {a : Nat} (kd_a0 : sj_kd S a = some 1) : sj_Ctr l mX1_init [.ref a] S (fun v T => v = none ∧ ∃ L : List Nat, L.length = 8 ∧ sq_fl S L T ∧ sq_ol T a (fun i => (a :: L).getD i 0) ∧ sj_fi T a = sj_fi S a ∧ sq_xp (fun b => b = a) S T) := by
  refine sj_start ([some (.ref a)]) (by decide +kernel) rfl rfl (fun X hX C hR => ?_)
  subst hX
  have kd_a := kd_a0
  refine sj_aload_n C 1 rfl dX1_init_0 rfl rfl ?_
  refine sj_objI C 4 rfl dX1_init_1 (wr_4 _ (List.mem_of_getElem? (i := 2) (by decide +kernel))) rfl ?_
  refine sj_aload_n C 5 rfl dX1_init_4 rfl rfl ?_
  refine sj_new C 8 rfl kk_X2 dX1_init_5 (⟨wr_4 _ (List.mem_of_getElem? (i := 3) (by decide +kernel)), wr_2 _ (List.mem_of_getElem? (i := 4) (by decide +kernel)), wr_2 _ (List.mem_of_getElem? (i := 5) (by decide +kernel))⟩) rfl (fun a_5 fr_5 => ?_)
  refine sj_dup C 9 rfl dX1_init_8 rfl ?_
  refine sj_bipush C (28) 11 rfl dX1_init_9 (by decide) ?_
  rw [show (28 : Int32) = nI 28 from rfl]
  refine sj_callI C 14 rfl dX1_init_11 cv_X1_11 rfl (ct_X2_init_28 _ (sj_kd_nO S a_5 2)) rfl rfl rfl rfl rfl (fun v_11 S_11 hp_11 => ?_)
  obtain ⟨rfl, hp_11⟩ := hp_11
  obtain ⟨c1, f1, r1, z1⟩ := sq_fx_row (f := 2) kd_a fr_5 hp_11
  have kd_b : sj_kd S_11 a = some 1 := f1.1.2
  refine sj_putRF (v := some a_5) C 17 rfl fd_X1_14 dX1_init_14 rfl rfl rfl (fun _ _ _ h => by cases h; rfl) (sj_noN _ _ (by decide +kernel)) kd_b ?_
  generalize sj_wRf S_11 a 2 (some a_5) = U1 at f1 r1 z1 ⊢
  clear hp_11 kd_b
  have kd_a := f1.1.2
  refine sj_aload_n C 18 rfl dX1_init_17 rfl rfl ?_
  refine sj_new C 21 rfl kk_X2 dX1_init_18 (⟨wr_4 _ (List.mem_of_getElem? (i := 3) (by decide +kernel)), wr_2 _ (List.mem_of_getElem? (i := 4) (by decide +kernel)), wr_2 _ (List.mem_of_getElem? (i := 5) (by decide +kernel))⟩) rfl (fun a_18 fr_18 => ?_)
  refine sj_dup C 22 rfl dX1_init_21 rfl ?_
  refine sj_bipush C (28) 24 rfl dX1_init_22 (by decide) ?_
  rw [show (28 : Int32) = nI 28 from rfl]
  refine sj_callI C 27 rfl dX1_init_24 cv_X1_11 rfl (ct_X2_init_28 _ (sj_kd_nO U1 a_18 2)) rfl rfl rfl rfl rfl (fun v_24 S_24 hp_24 => ?_)
  obtain ⟨rfl, hp_24⟩ := hp_24
  obtain ⟨c2, f2, r2, z2⟩ := sq_fx_row (f := 3) kd_a fr_18 hp_24
  have kd_b : sj_kd S_24 a = some 1 := f2.1.2
  refine sj_putRF (v := some a_18) C 30 rfl fd_X1_20 dX1_init_27 rfl rfl rfl (fun _ _ _ h => by cases h; rfl) (sj_noN _ _ (by decide +kernel)) kd_b ?_
  generalize sj_wRf S_24 a 3 (some a_18) = U2 at f2 r2 z2 ⊢
  clear hp_24 kd_b
  have kd_a := f2.1.2
  refine sj_aload_n C 31 rfl dX1_init_30 rfl rfl ?_
  refine sj_new C 34 rfl kk_X2 dX1_init_31 (⟨wr_4 _ (List.mem_of_getElem? (i := 3) (by decide +kernel)), wr_2 _ (List.mem_of_getElem? (i := 4) (by decide +kernel)), wr_2 _ (List.mem_of_getElem? (i := 5) (by decide +kernel))⟩) rfl (fun a_31 fr_31 => ?_)
  refine sj_dup C 35 rfl dX1_init_34 rfl ?_
  refine sj_bipush C (28) 37 rfl dX1_init_35 (by decide) ?_
  rw [show (28 : Int32) = nI 28 from rfl]
  refine sj_callI C 40 rfl dX1_init_37 cv_X1_11 rfl (ct_X2_init_28 _ (sj_kd_nO U2 a_31 2)) rfl rfl rfl rfl rfl (fun v_37 S_37 hp_37 => ?_)
  obtain ⟨rfl, hp_37⟩ := hp_37
  obtain ⟨c3, f3, r3, z3⟩ := sq_fx_row (f := 4) kd_a fr_31 hp_37
  have kd_b : sj_kd S_37 a = some 1 := f3.1.2
  refine sj_putRF (v := some a_31) C 43 rfl fd_X1_23 dX1_init_40 rfl rfl rfl (fun _ _ _ h => by cases h; rfl) (sj_noN _ _ (by decide +kernel)) kd_b ?_
  generalize sj_wRf S_37 a 4 (some a_31) = U3 at f3 r3 z3 ⊢
  clear hp_37 kd_b
  have kd_a := f3.1.2
  refine sj_aload_n C 44 rfl dX1_init_43 rfl rfl ?_
  refine sj_new C 47 rfl kk_X2 dX1_init_44 (⟨wr_4 _ (List.mem_of_getElem? (i := 3) (by decide +kernel)), wr_2 _ (List.mem_of_getElem? (i := 4) (by decide +kernel)), wr_2 _ (List.mem_of_getElem? (i := 5) (by decide +kernel))⟩) rfl (fun a_44 fr_44 => ?_)
  refine sj_dup C 48 rfl dX1_init_47 rfl ?_
  refine sj_bipush C (8) 50 rfl dX1_init_48 (by decide) ?_
  rw [show (8 : Int32) = nI 8 from rfl]
  refine sj_callI C 53 rfl dX1_init_50 cv_X1_11 rfl (ct_X2_init_8 _ (sj_kd_nO U3 a_44 2)) rfl rfl rfl rfl rfl (fun v_50 S_50 hp_50 => ?_)
  obtain ⟨rfl, hp_50⟩ := hp_50
  obtain ⟨c4, f4, r4, z4⟩ := sq_fx_row (f := 5) kd_a fr_44 hp_50
  have kd_b : sj_kd S_50 a = some 1 := f4.1.2
  refine sj_putRF (v := some a_44) C 56 rfl fd_X1_26 dX1_init_53 rfl rfl rfl (fun _ _ _ h => by cases h; rfl) (sj_noN _ _ (by decide +kernel)) kd_b ?_
  generalize sj_wRf S_50 a 5 (some a_44) = U4 at f4 r4 z4 ⊢
  clear hp_50 kd_b
  have kd_a := f4.1.2
  refine sj_vret C hR rfl rfl dX1_init_56 ?_
  exact ⟨rfl, sq_ol_mk kd_a0 f1 r1 f2 r2 f3 r3 f4 r4⟩
/-- five rows of a Text -/
theorem sq_xl_mk {S U1 U2 U3 U4 U5 : sj_St} {a r1 c1 r2 c2 r3 c3 r4 c4 r5 c5 : Nat} (ka : sj_kd S a = some 5) (hz : sj_fi S a = fun _ => 0) (f1 : sq_fx S a 5 0 r1 [c1] U1) (w1 : sj_rw U1 r1 c1 60) (f2 : sq_fx U1 a 5 4 r2 [c2] U2) (w2 : sj_rw U2 r2 c2 40) (f3 : sq_fx U2 a 5 6 r3 [c3] U3) (w3 : sj_rw U3 r3 c3 60) (f4 : sq_fx U3 a 5 7 r4 [c4] U4) (w4 : sj_rw U4 r4 c4 60) (f5 : sq_fx U4 a 5 8 r5 [c5] U5) (w5 : sj_rw U5 r5 c5 60) : ∃ L : List Nat, L.length = 10 ∧ sq_fl S L U5 ∧ (∀ B, sq_xl U5 a (fun i => (a :: L).getD i 0) 0 B) ∧ sq_xp (fun b => b = a) S U5 := by
  have k1 := f1.1.2
  have k2 := f2.1.2
  have k3 := f3.1.2
  have k4 := f4.1.2
  have x1 := f1.2.2.2.2
  have x2 := f2.2.2.2.2
  have x3 := f3.2.2.2.2
  have x4 := f4.2.2.2.2
  have x5 := f5.2.2.2.2
  have l12 := sq_fl_tr f1.1.1 x1 f2.1.1 x2
  have x12 := sq_xp_tr x1 x2
  have l13 := sq_fl_tr l12 x12 f3.1.1 x3
  have x13 := sq_xp_tr x12 x3
  have l14 := sq_fl_tr l13 x13 f4.1.1 x4
  have x14 := sq_xp_tr x13 x4
  have l15 := sq_fl_tr l14 x14 f5.1.1 x5
  have x15 := sq_xp_tr x14 x5
  have n1 : ∀ x, x ∈ [r1, c1] → ¬ (fun b => b = a) x := fun x hx => sq_fx_ne f1 ka hx
  have n2 : ∀ x, x ∈ [r2, c2] → ¬ (fun b => b = a) x := fun x hx => sq_fx_ne f2 k1 hx
  have n3 : ∀ x, x ∈ [r3, c3] → ¬ (fun b => b = a) x := fun x hx => sq_fx_ne f3 k2 hx
  have n4 : ∀ x, x ∈ [r4, c4] → ¬ (fun b => b = a) x := fun x hx => sq_fx_ne f4 k3 hx
  have x45 := sq_xp_tr x4 x5
  have x35 := sq_xp_tr x3 x45
  have w1' : sj_rw U5 r1 c1 60 := sj_rw_xp (sq_xp_tr x2 x35) (n1 r1 (by simp)) (n1 c1 (by simp)) w1
  have w2' : sj_rw U5 r2 c2 40 := sj_rw_xp x35 (n2 r2 (by simp)) (n2 c2 (by simp)) w2
  have w3' : sj_rw U5 r3 c3 60 := sj_rw_xp x45 (n3 r3 (by simp)) (n3 c3 (by simp)) w3
  have w4' : sj_rw U5 r4 c4 60 := sj_rw_xp x5 (n4 r4 (by simp)) (n4 c4 (by simp)) w4
  have g5 : sj_rf U5 a 8 = some r5 := f5.2.1
  have g4 : sj_rf U5 a 7 = some r4 := (f5.2.2.1 7 (by omega)).trans f4.2.1
  have g3 : sj_rf U5 a 6 = some r3 := (f5.2.2.1 6 (by omega)).trans ((f4.2.2.1 6 (by omega)).trans f3.2.1)
  have g2 : sj_rf U5 a 4 = some r2 := (f5.2.2.1 4 (by omega)).trans ((f4.2.2.1 4 (by omega)).trans ((f3.2.2.1 4 (by omega)).trans f2.2.1))
  have g1 : sj_rf U5 a 0 = some r1 := (f5.2.2.1 0 (by omega)).trans ((f4.2.2.1 0 (by omega)).trans ((f3.2.2.1 0 (by omega)).trans ((f2.2.2.1 0 (by omega)).trans f1.2.1)))
  have hz5 : sj_fi U5 a = fun _ => 0 := by rw [f5.2.2.2.1, f4.2.2.2.1, f3.2.2.2.1, f2.2.2.2.1, f1.2.2.2.1, hz]
  refine ⟨_, rfl, l15, fun B => ⟨f5.1.2, ⟨g1, w1'⟩, ⟨g2, w2'⟩, ⟨g3, w3'⟩, ⟨g4, w4'⟩, ⟨g5, w5⟩, ⟨?_, Nat.zero_le _, fun j hj => absurd hj (Nat.not_lt_zero j)⟩, fun i j hi hj e => sq_gd_inj (sq_fl_cons l15 ka) hi hj e⟩, x15⟩
  rw [hz5]
  rfl
set_option maxRecDepth 100000 in
set_option maxHeartbeats 150000 in
theorem ct_X5_init (l : Launch) {S : sj_St} {a : Nat} (kd_a0 : sj_kd S a = some 5) (hz : sj_fi S a = fun _ => 0) : sj_Ctr l mX5_init [.ref a] S (fun v T => v = none ∧ ∃ L : List Nat, L.length = 10 ∧ sq_fl S L T ∧ (∀ B, sq_xl T a (fun i => (a :: L).getD i 0) 0 B) ∧ sq_xp (fun b => b = a) S T) := by
  refine sj_start ([some (.ref a)]) (by decide +kernel) rfl rfl (fun X hX C hR => ?_)
  subst hX
  have kd_a := kd_a0
  refine sj_aload_n C 1 rfl dX5_init_0 rfl rfl ?_
  refine sj_objI C 4 rfl dX5_init_1 (wr_2 _ (List.mem_of_getElem? (i := 2) (by decide +kernel))) rfl ?_
  refine sj_aload_n C 5 rfl dX5_init_4 rfl rfl ?_
  refine sj_new C 8 rfl kk_X2 dX5_init_5 (⟨wr_2 _ (List.mem_of_getElem? (i := 3) (by decide +kernel)), wr_2 _ (List.mem_of_getElem? (i := 4) (by decide +kernel)), wr_2 _ (List.mem_of_getElem? (i := 5) (by decide +kernel))⟩) rfl (fun a_5 fr_5 => ?_)
  refine sj_dup C 9 rfl dX5_init_8 rfl ?_
  refine sj_bipush C (60) 11 rfl dX5_init_9 (by decide) ?_
  rw [show (60 : Int32) = nI 60 from rfl]
  refine sj_callI C 14 rfl dX5_init_11 cv_X5_11 rfl (ct_X2_init_60 _ (sj_kd_nO S a_5 2)) rfl rfl rfl rfl rfl (fun v_11 S_11 hp_11 => ?_)
  obtain ⟨rfl, hp_11⟩ := hp_11
  obtain ⟨c1, f1, r1, z1⟩ := sq_fx_row (f := 0) kd_a fr_5 hp_11
  have kd_b : sj_kd S_11 a = some 5 := f1.1.2
  refine sj_putRF (v := some a_5) C 17 rfl fd_X5_14 dX5_init_14 rfl rfl rfl (fun _ _ _ h => by cases h; rfl) (sj_noN _ _ (by decide +kernel)) kd_b ?_
  generalize sj_wRf S_11 a 0 (some a_5) = U1 at f1 r1 z1 ⊢
  clear hp_11 kd_b
  have kd_a := f1.1.2
  refine sj_aload_n C 18 rfl dX5_init_17 rfl rfl ?_
  refine sj_new C 21 rfl kk_X2 dX5_init_18 (⟨wr_2 _ (List.mem_of_getElem? (i := 3) (by decide +kernel)), wr_2 _ (List.mem_of_getElem? (i := 4) (by decide +kernel)), wr_2 _ (List.mem_of_getElem? (i := 5) (by decide +kernel))⟩) rfl (fun a_18 fr_18 => ?_)
  refine sj_dup C 22 rfl dX5_init_21 rfl ?_
  refine sj_bipush C (40) 24 rfl dX5_init_22 (by decide) ?_
  rw [show (40 : Int32) = nI 40 from rfl]
  refine sj_callI C 27 rfl dX5_init_24 cv_X5_11 rfl (ct_X2_init_40 _ (sj_kd_nO U1 a_18 2)) rfl rfl rfl rfl rfl (fun v_24 S_24 hp_24 => ?_)
  obtain ⟨rfl, hp_24⟩ := hp_24
  obtain ⟨c2, f2, r2, z2⟩ := sq_fx_row (f := 4) kd_a fr_18 hp_24
  have kd_b : sj_kd S_24 a = some 5 := f2.1.2
  refine sj_putRF (v := some a_18) C 30 rfl fd_X5_20 dX5_init_27 rfl rfl rfl (fun _ _ _ h => by cases h; rfl) (sj_noN _ _ (by decide +kernel)) kd_b ?_
  generalize sj_wRf S_24 a 4 (some a_18) = U2 at f2 r2 z2 ⊢
  clear hp_24 kd_b
  have kd_a := f2.1.2
  refine sj_aload_n C 31 rfl dX5_init_30 rfl rfl ?_
  refine sj_new C 34 rfl kk_X2 dX5_init_31 (⟨wr_2 _ (List.mem_of_getElem? (i := 3) (by decide +kernel)), wr_2 _ (List.mem_of_getElem? (i := 4) (by decide +kernel)), wr_2 _ (List.mem_of_getElem? (i := 5) (by decide +kernel))⟩) rfl (fun a_31 fr_31 => ?_)
  refine sj_dup C 35 rfl dX5_init_34 rfl ?_
  refine sj_bipush C (60) 37 rfl dX5_init_35 (by decide) ?_
  rw [show (60 : Int32) = nI 60 from rfl]
  refine sj_callI C 40 rfl dX5_init_37 cv_X5_11 rfl (ct_X2_init_60 _ (sj_kd_nO U2 a_31 2)) rfl rfl rfl rfl rfl (fun v_37 S_37 hp_37 => ?_)
  obtain ⟨rfl, hp_37⟩ := hp_37
  obtain ⟨c3, f3, r3, z3⟩ := sq_fx_row (f := 6) kd_a fr_31 hp_37
  have kd_b : sj_kd S_37 a = some 5 := f3.1.2
  refine sj_putRF (v := some a_31) C 43 rfl fd_X5_23 dX5_init_40 rfl rfl rfl (fun _ _ _ h => by cases h; rfl) (sj_noN _ _ (by decide +kernel)) kd_b ?_
  generalize sj_wRf S_37 a 6 (some a_31) = U3 at f3 r3 z3 ⊢
  clear hp_37 kd_b
  have kd_a := f3.1.2
  refine sj_aload_n C 44 rfl dX5_init_43 rfl rfl ?_
  refine sj_new C 47 rfl kk_X2 dX5_init_44 (⟨wr_2 _ (List.mem_of_getElem? (i := 3) (by decide +kernel)), wr_2 _ (List.mem_of_getElem? (i := 4) (by decide +kernel)), wr_2 _ (List.mem_of_getElem? (i := 5) (by decide +kernel))⟩) rfl (fun a_44 fr_44 => ?_)
  refine sj_dup C 48 rfl dX5_init_47 rfl ?_
  refine sj_bipush C (60) 50 rfl dX5_init_48 (by decide) ?_
  rw [show (60 : Int32) = nI 60 from rfl]
  refine sj_callI C 53 rfl dX5_init_50 cv_X5_11 rfl (ct_X2_init_60 _ (sj_kd_nO U3 a_44 2)) rfl rfl rfl rfl rfl (fun v_50 S_50 hp_50 => ?_)
  obtain ⟨rfl, hp_50⟩ := hp_50
  obtain ⟨c4, f4, r4, z4⟩ := sq_fx_row (f := 7) kd_a fr_44 hp_50
  have kd_b : sj_kd S_50 a = some 5 := f4.1.2
  refine sj_putRF (v := some a_44) C 56 rfl fd_X5_26 dX5_init_53 rfl rfl rfl (fun _ _ _ h => by cases h; rfl) (sj_noN _ _ (by decide +kernel)) kd_b ?_
  generalize sj_wRf S_50 a 7 (some a_44) = U4 at f4 r4 z4 ⊢
  clear hp_50 kd_b
  have kd_a := f4.1.2
  refine sj_aload_n C 57 rfl dX5_init_56 rfl rfl ?_
  refine sj_new C 60 rfl kk_X2 dX5_init_57 (⟨wr_2 _ (List.mem_of_getElem? (i := 3) (by decide +kernel)), wr_2 _ (List.mem_of_getElem? (i := 4) (by decide +kernel)), wr_2 _ (List.mem_of_getElem? (i := 5) (by decide +kernel))⟩) rfl (fun a_57 fr_57 => ?_)
  refine sj_dup C 61 rfl dX5_init_60 rfl ?_
  refine sj_bipush C (60) 63 rfl dX5_init_61 (by decide) ?_
  rw [show (60 : Int32) = nI 60 from rfl]
  refine sj_callI C 66 rfl dX5_init_63 cv_X5_11 rfl (ct_X2_init_60 _ (sj_kd_nO U4 a_57 2)) rfl rfl rfl rfl rfl (fun v_63 S_63 hp_63 => ?_)
  obtain ⟨rfl, hp_63⟩ := hp_63
  obtain ⟨c5, f5, r5, z5⟩ := sq_fx_row (f := 8) kd_a fr_57 hp_63
  have kd_b : sj_kd S_63 a = some 5 := f5.1.2
  refine sj_putRF (v := some a_57) C 69 rfl fd_X5_29 dX5_init_66 rfl rfl rfl (fun _ _ _ h => by cases h; rfl) (sj_noN _ _ (by decide +kernel)) kd_b ?_
  generalize sj_wRf S_63 a 8 (some a_57) = U5 at f5 r5 z5 ⊢
  clear hp_63 kd_b
  have kd_a := f5.1.2
  refine sj_vret C hR rfl rfl dX5_init_69 ?_
  exact ⟨rfl, sq_xl_mk kd_a0 hz f1 r1 f2 r2 f3 r3 f4 r4 f5 r5⟩
