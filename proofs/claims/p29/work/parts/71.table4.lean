/-! CONSTRUCTORS: a table -/
theorem ct_X3_init_z (l : Launch) {S : sj_St} {a : Nat} (ka : sj_kd S a = some 3) : sj_Ctr l mX3_init [.ref a, .int 0, .null] S (fun v T => v = none ∧ sq_nsh S a 0 (fun _ => 0) T) := ct_X3_init_0 l ka
theorem sq_fx_sheet {S S1 : sj_St} {a ca f r : Nat} {F : Nat → Int32} {k : Nat} (ka : sj_kd S a = some ca) (fr : sj_kd S r = none) (hr : sq_nsh (sj_nO S r 3) r k F S1) : ∃ rm cm rn cn, sq_fx S a ca f r [rm, cm, rn, cn] (sj_wRf S1 a f (some r)) := by
  obtain ⟨rm, cm, rn, cn, ⟨f1, f2, f3, f4, n1, n2⟩, hkr, -, -, w1, -, w2, -, -, x1⟩ := hr
  have hx : sq_xp (fun _ => False) S S1 := sq_xp_new (sq_xp_nO fr) fr x1
  have hk : ∀ {x y c d : Nat}, sj_kd S1 x = some c → sj_kd S1 y = some d → c ≠ d → x ≠ y := fun h1 h2 h3 e => by
    rw [e, h2] at h1
    cases h1
    exact h3 rfl
  have hl4 : sq_fl (sj_nO S r 3) [rm, cm, rn, cn] S1 := by
    refine ⟨fun x hx => ?_, ?_⟩
    · simp only [List.mem_cons, List.not_mem_nil, or_false] at hx
      rcases hx with rfl | rfl | rfl | rfl
      · exact ⟨f1, _, w2.1⟩
      · exact ⟨f2, _, w2.2.2.1⟩
      · exact ⟨f3, _, w1.1⟩
      · exact ⟨f4, _, w1.2.2.1⟩
    · have e1 : rm ≠ cm := hk w2.1 w2.2.2.1 (by decide)
      have e2 : rm ≠ rn := fun e => n2 e.symm
      have e3 : rm ≠ cn := hk w2.1 w1.2.2.1 (by decide)
      have e4 : cm ≠ rn := hk w2.2.2.1 w1.1 (by decide)
      have e5 : cm ≠ cn := fun e => n1 e.symm
      have e6 : rn ≠ cn := hk w1.1 w1.2.2.1 (by decide)
      simp [e1, e2, e3, e4, e5, e6]
  have hl : sq_fl S (r :: [rm, cm, rn, cn]) S1 := sq_fl_new fr hl4 x1
  exact ⟨rm, cm, rn, cn, sq_fx_mk ka hx hl⟩
theorem sq_fx_nR {S : sj_St} {a ca f r ci n : Nat} (ka : sj_kd S a = some ca) (fr : sj_kd S r = none) : sq_fx S a ca f r [] (sj_wRf (sj_nR S r ci n) a f (some r)) ∧ sj_kd (sj_wRf (sj_nR S r ci n) a f (some r)) r = some ci ∧ sj_il (sj_wRf (sj_nR S r ci n) a f (some r)) r = n ∧ sj_ra (sj_wRf (sj_nR S r ci n) a f (some r)) r = fun _ => none := ⟨sq_fx_mk ka (sq_xp_nR fr) (sq_fl_1 fr (sj_up_self _ _ _)), sj_up_self _ _ _, sj_up_self _ _ _, sj_up_self _ _ _⟩
theorem sq_fx_oaths {S S1 : sj_St} {a ca f r : Nat} (ka : sj_kd S a = some ca) (fr : sj_kd S r = none) {L : List Nat} (h1 : sq_fl (sj_nO S r 1) L S1) (h2 : sq_ol S1 r (fun i => (r :: L).getD i 0)) (hL : L.length = 8) (h3 : sj_fi S1 r = sj_fi (sj_nO S r 1) r) (x1 : sq_xp (fun b => b = r) (sj_nO S r 1) S1) : sq_fx S a ca f r L (sj_wRf S1 a f (some r)) ∧ sq_ol (sj_wRf S1 a f (some r)) r (fun i => (r :: L).getD i 0) ∧ sj_fi (sj_wRf S1 a f (some r)) r = fun _ => 0 := by
  have hx : sq_xp (fun _ => False) S S1 := sq_xp_new (sq_xp_nO fr) fr x1
  have hl : sq_fl S (r :: L) S1 := sq_fl_new fr h1 x1
  have hne : ∀ x, x ∈ r :: L → ¬ (fun b => b = a) x := fun x hm => sq_fl_ne hl ka hm
  refine ⟨sq_fx_mk ka hx hl, sq_ol_xp (sq_xp_rf (P := fun b => b = a) rfl) (hne r List.mem_cons_self) (fun i hi => hne _ (sq_gd_mem (by show i < L.length + 1; omega))) h2, ?_⟩
  exact h3.trans (sj_up_self _ _ _)
theorem sq_len8 {L : List Nat} (h : L.length = 8) : ∃ a b c d e f g i, L = [a, b, c, d, e, f, g, i] := by
  match L, h with
  | [a, b, c, d, e, f, g, i], _ => exact ⟨a, b, c, d, e, f, g, i, rfl⟩
/-- where a table's cells stand in the order in which they were made -/
def sq_og : Nat → Nat
  | 0 => 0
  | 1 => 6
  | 2 => 1
  | 3 => 7
  | 4 => 8
  | 14 => 18
  | 15 => 19
  | n => n + 4
theorem sq_og_lt {i : Nat} (h : i < 16) : sq_og i < 20 := by
  have hall : ∀ i, i < 16 → sq_og i < 20 := by decide +kernel
  exact hall i h
theorem sq_og_inj {i j : Nat} (h : i < 16) (h2 : j < 16) (e : sq_og i = sq_og j) : i = j := by
  have hall : ∀ i, i < 16 → ∀ j, j < 16 → sq_og i = sq_og j → i = j := by decide +kernel
  exact hall i h j h2 e
/-- a new table -/
def sq_nT (S : sj_St) (D : Nat → Nat) : Prop := sq_tl S D ∧ (sj_fi S (D 0) 3 = 0 ∧ sj_fi S (D 0) 6 = -1 ∧ sj_fi S (D 0) 7 = -1) ∧ (∀ j, j < 9 → sj_ia S (D 15) j = sj_t1 j) ∧ (sj_fi S (D 5) 0 = 0 ∧ sj_fi S (D 5) 1 = 0 ∧ ∀ i, i < 8 → sj_ia S (D 13) i = nI i) ∧ ∀ j, sj_ra S (D 1) j = none
theorem sq_nT_xp {P : Nat → Prop} {S T : sj_St} (h : sq_xp P S T) {D : Nat → Nat} (hD : ∀ i, i < 16 → ¬ P (D i)) (g : sq_nT S D) : sq_nT T D := by
  obtain ⟨gt, ⟨g1, g2, g3⟩, g4, ⟨g5, g6, g7⟩, g8⟩ := g
  have k0 := gt.1
  have ol := gt.2.2.2.2.1.2
  have h0 := hD 0 (by omega)
  refine ⟨sq_tl_xp h hD gt, ⟨(sq_x_fi h k0 h0 3).trans g1, (sq_x_fi h k0 h0 6).trans g2, (sq_x_fi h k0 h0 7).trans g3⟩, ?_, ⟨(sq_x_fi h ol.1 (hD 5 (by omega)) 0).trans g5, (sq_x_fi h ol.1 (hD 5 (by omega)) 1).trans g6, ?_⟩, fun j => (sq_x_ra h gt.2.2.1.2.1 (hD 1 (by omega)) j).trans (g8 j)⟩
  · rw [sq_x_ia h gt.2.2.2.2.2.1.2.2.2.1 (hD 15 (by omega))]
    exact g4
  · rw [sq_x_ia h ol.2.2.2.2.1.2.2.2.1 (hD 13 (by omega))]
    exact g7
theorem sq_tl_cg {S : sj_St} {D E : Nat → Nat} (h : ∀ i, i < 16 → E i = D i) (g : sq_tl S D) : sq_tl S E := by
  obtain ⟨g0, g1, ⟨g2, g3, g4⟩, ⟨g5, r5⟩, ⟨g6, o0, ⟨o1, q1⟩, ⟨o2, q2⟩, ⟨o3, q3⟩, ⟨o4, q4⟩, oi⟩, ⟨g7, r7⟩, gi⟩ := g
  have e0 := h 0 (by omega)
  have e1 := h 1 (by omega)
  have e2 := h 2 (by omega)
  have e3 := h 3 (by omega)
  have e4 := h 4 (by omega)
  have e5 := h 5 (by omega)
  have f1 := h (5 + 1) (by omega)
  have f2 := h (5 + 2) (by omega)
  have f3 := h (5 + 3) (by omega)
  have f4 := h (5 + 4) (by omega)
  have f5 := h (5 + 5) (by omega)
  have f6 := h (5 + 6) (by omega)
  have f7 := h (5 + 7) (by omega)
  have f8 := h (5 + 8) (by omega)
  have e14 := h 14 (by omega)
  have e15 := h 15 (by omega)
  have tr : ∀ {r c r' c' n : Nat}, r' = r → c' = c → sj_rw S r c n → sj_rw S r' c' n := fun h1 h2 h => by
    rw [h1, h2]
    exact h
  unfold sq_tl sq_ol
  rw [e0, e1, e2, e3, e4, e5, e14, e15]
  exact ⟨g0, g1, ⟨g2, g3, g4⟩, ⟨g5, r5⟩, ⟨g6, o0, ⟨o1.trans (congrArg some f1.symm), tr f1 f2 q1⟩, ⟨o2.trans (congrArg some f3.symm), tr f3 f4 q2⟩, ⟨o3.trans (congrArg some f5.symm), tr f5 f6 q3⟩, ⟨o4.trans (congrArg some f7.symm), tr f7 f8 q4⟩, fun i j hi hj e => oi i j hi hj (by
    have e' : E (5 + i) = E (5 + j) := e
    rw [h (5 + i) (by omega), h (5 + j) (by omega)] at e'
    exact e')⟩, ⟨g7, r7⟩, fun i j hi hj e => gi i j hi hj (by
    rw [h i hi, h j hj] at e
    exact e)⟩
theorem sq_nT_cg {S : sj_St} {D E : Nat → Nat} (h : ∀ i, i < 16 → E i = D i) (g : sq_nT S D) : sq_nT S E := by
  obtain ⟨gt, g1, g2, g3, g4⟩ := g
  refine ⟨sq_tl_cg h gt, ?_, ?_, ?_, ?_⟩
  · rw [h 0 (by omega)]; exact g1
  · rw [h 15 (by omega)]; exact g2
  · rw [h 5 (by omega), h 13 (by omega)]; exact g3
  · rw [h 1 (by omega)]; exact g4
/-- the fields of a table -/
theorem sq_tl_mk {S U1 U2 U3 U4 U5 : sj_St} {a s rm cm rn cn sr r3 c4 o r14 c15 : Nat} {L8 : List Nat} (ka : sj_kd S a = some 4) (hz : sj_fi S a = fun _ => 0) (f1 : sq_fx S a 4 0 s [rm, cm, rn, cn] U1) (f2 : sq_fx U1 a 4 1 sr [] U2) (w2 : sj_kd U2 sr = some 9) (w2' : sj_il U2 sr = 8) (w2'' : sj_ra U2 sr = fun _ => none) (f3 : sq_fx U2 a 4 2 r3 [c4] U3) (w3 : sj_rw U3 r3 c4 8) (f4 : sq_fx U3 a 4 4 o L8 U4) (hL8 : L8.length = 8) (w4 : sq_ol U4 o (fun i => (o :: L8).getD i 0)) (w4' : sj_fi U4 o = fun _ => 0) (f5 : sq_fx U4 a 4 5 r14 [c15] U5) (w5 : sj_rw U5 r14 c15 9) : ∃ L : List Nat, L.length = 19 ∧ sq_fl S L U5 ∧ (L.getD 8 0 = o ∧ L.getD 17 0 = r14 ∧ L.getD 18 0 = c15 ∧ ∀ i, i < 9 → L.getD (8 + i) 0 = (o :: L8).getD i 0) ∧ sq_tl U5 (fun i => (a :: L).getD (sq_og i) 0) ∧ sj_fi U5 a = (fun _ => 0) ∧ sj_fi U5 o = (fun _ => 0) ∧ sj_ra U5 (L.getD 5 0) = (fun _ => none) ∧ sq_xp (fun b => b = a) S U5 := by
  have k1 := f1.1.2
  have k2 := f2.1.2
  have k3 := f3.1.2
  have k4 := f4.1.2
  have x1 := f1.2.2.2.2
  have x2 := f2.2.2.2.2
  have x3 := f3.2.2.2.2
  have x4 := f4.2.2.2.2
  have x5 := f5.2.2.2.2
  have l12 := sq_fl_tr f1.1.1 x1 f2.1.1 x2
  have x12 := sq_xp_tr x1 x2
  have l13 := sq_fl_tr l12 x12 f3.1.1 x3
  have x13 := sq_xp_tr x12 x3
  have l14 := sq_fl_tr l13 x13 f4.1.1 x4
  have x14 := sq_xp_tr x13 x4
  have l15 := sq_fl_tr l14 x14 f5.1.1 x5
  have x15 := sq_xp_tr x14 x5
  have n2 : ∀ x, x ∈ [sr] → ¬ (fun b => b = a) x := fun x hx => sq_fx_ne f2 k1 hx
  have n3 : ∀ x, x ∈ [r3, c4] → ¬ (fun b => b = a) x := fun x hx => sq_fx_ne f3 k2 hx
  have n4 : ∀ x, x ∈ o :: L8 → ¬ (fun b => b = a) x := fun x hx => sq_fx_ne f4 k3 hx
  have x45 := sq_xp_tr x4 x5
  have x35 := sq_xp_tr x3 x45
  have nsr := n2 sr (by simp)
  have w3' : sj_rw U5 r3 c4 8 := sj_rw_xp x45 (n3 r3 (by simp)) (n3 c4 (by simp)) w3
  have no := n4 o List.mem_cons_self
  have w4z : sq_ol U5 o (fun i => (o :: L8).getD i 0) := sq_ol_xp x5 no (fun i hi => n4 _ (sq_gd_mem (by show i < L8.length + 1; omega))) w4
  have g5 : sj_rf U5 a 5 = some r14 := f5.2.1
  have g4 : sj_rf U5 a 4 = some o := (f5.2.2.1 4 (by omega)).trans f4.2.1
  have g3 : sj_rf U5 a 2 = some r3 := (f5.2.2.1 2 (by omega)).trans ((f4.2.2.1 2 (by omega)).trans f3.2.1)
  have g2 : sj_rf U5 a 1 = some sr := (f5.2.2.1 1 (by omega)).trans ((f4.2.2.1 1 (by omega)).trans ((f3.2.2.1 1 (by omega)).trans f2.2.1))
  have g1 : sj_rf U5 a 0 = some s := (f5.2.2.1 0 (by omega)).trans ((f4.2.2.1 0 (by omega)).trans ((f3.2.2.1 0 (by omega)).trans ((f2.2.2.1 0 (by omega)).trans f1.2.1)))
  have hz5 : sj_fi U5 a = fun _ => 0 := by rw [f5.2.2.2.1, f4.2.2.2.1, f3.2.2.2.1, f2.2.2.2.1, f1.2.2.2.1, hz]
  have ho5 : sj_fi U5 o = fun _ => 0 := ((x5 o 1 w4.1).2 no).2.2.1.trans w4'
  have hsr : sj_ra U5 sr = fun _ => none := ((x35 sr 9 w2).2 nsr).2.2.2.2.1.trans w2''
  have hinj := fun i j hi hj e => sq_gd_inj (sq_fl_cons l15 ka) (i := sq_og i) (j := sq_og j) hi hj e
  obtain ⟨o1, o2, o3, o4, o5, o6, o7, o8, rfl⟩ := sq_len8 hL8
  obtain ⟨q0, q1, q2, q3, q4, q5⟩ := w4z
  have hinj' : ∀ i j, i < 16 → j < 16 → (a :: ((s :: [rm, cm, rn, cn]) ++ (sr :: []) ++ (r3 :: [c4]) ++ (o :: [o1, o2, o3, o4, o5, o6, o7, o8]) ++ (r14 :: [c15]))).getD (sq_og i) 0 = (a :: ((s :: [rm, cm, rn, cn]) ++ (sr :: []) ++ (r3 :: [c4]) ++ (o :: [o1, o2, o3, o4, o5, o6, o7, o8]) ++ (r14 :: [c15]))).getD (sq_og j) 0 → i = j := fun i j hi hj e => sq_og_inj hi hj (hinj i j (sq_og_lt hi) (sq_og_lt hj) e)
  exact ⟨_, rfl, l15, ⟨rfl, rfl, rfl, fun i hi => by
    have hall : ∀ i, i < 9 → (([s, rm, cm, rn, cn] ++ [sr] ++ [r3, c4] ++ [o, o1, o2, o3, o4, o5, o6, o7, o8] ++ [r14, c15]).getD (8 + i) 0 = [o, o1, o2, o3, o4, o5, o6, o7, o8].getD i 0) := fun i hi => by
      obtain rfl | rfl | rfl | rfl | rfl | rfl | rfl | rfl | rfl : i = 0 ∨ i = 1 ∨ i = 2 ∨ i = 3 ∨ i = 4 ∨ i = 5 ∨ i = 6 ∨ i = 7 ∨ i = 8 := by omega
      all_goals rfl
    exact hall i hi⟩, ⟨f5.1.2, g1, ⟨g2, sq_x_k x35 w2, (sq_x_il x35 w2 nsr).trans w2'⟩, ⟨g3, w3'⟩, ⟨g4, q0, q1, q2, q3, q4, fun i j hi hj e => by
      have := hinj' (5 + i) (5 + j) (by omega) (by omega) e
      omega⟩, ⟨g5, w5⟩, hinj'⟩, hz5, ho5, hsr, x15⟩
theorem sq_nT_mk {U T : sj_St} {D : Nat → Nat} {f : Nat → Int32} (ht : sq_tl U D) (hz : sj_fi U (D 0) = fun _ => 0) (ho : sj_fi U (D 5) = fun _ => 0) (hr : sj_ra U (D 1) = fun _ => none) (hf : ∀ j, j < 9 → f j = sj_t1 j) {f1 f2 f3 f7 : Nat → Int32} (hT : T = sq_os (sj_sIa (sj_wFi (sj_wFi U (D 0) 6 (-1)) (D 0) 7 (-1)) (D 15) f) (D 5) (fun i => D (5 + i)) (nI 0, 0, f1, f2, f3, sj_cp 8 (sq_hn f1 f2 f3 0) f7)) : sq_nT T D ∧ sq_fr (sq_P D) U T := by
  have hi := ht.2.2.2.2.2.2
  have hne : ∀ {i j : Nat}, i ≠ j → i < 16 → j < 16 → D i ≠ D j := fun h1 h2 h3 e => h1 (hi _ _ h2 h3 e)
  let P : Nat → Prop := fun b => ∃ i, 5 ≤ i ∧ i < 14 ∧ b = D i
  have hPn : ∀ {j : Nat}, (j < 5 ∨ 14 ≤ j) → j < 16 → ¬ P (D j) := fun h1 h2 ⟨i, h3, h4, e⟩ => by
    have := hi _ _ h2 (by omega) e
    omega
  have hP : ∀ i, 5 ≤ i → i < 14 → P (D i) := fun i h1 h2 => ⟨i, h1, h2, rfl⟩
  have hf1 : sq_fr (sq_P D) U (sj_sIa (sj_wFi (sj_wFi U (D 0) 6 (-1)) (D 0) 7 (-1)) (D 15) f) := sq_fr_tr (sq_fr_tr (sq_fr_fi 6 _ (sq_Pi D (i := 0))) (sq_fr_fi 7 _ (sq_Pi D (i := 0)))) (sq_fr_ia _ (sq_Pi D (i := 15)))
  have hf2 : sq_fr P (sj_sIa (sj_wFi (sj_wFi U (D 0) 6 (-1)) (D 0) 7 (-1)) (D 15) f) T := by
    rw [hT]
    exact sq_fr_os _ (hP 5 (by omega) (by omega)) (hP (5 + 2) (by omega) (by omega)) (hP (5 + 4) (by omega) (by omega)) (hP (5 + 6) (by omega) (by omega)) (hP (5 + 8) (by omega) (by omega))
  have hfa : sq_fr (sq_P D) U T := sq_fr_tr hf1 (sq_fr_up hf2 (fun b ⟨i, h1, h2, e⟩ => ⟨i, by omega, e⟩))
  refine ⟨⟨sq_tl_fr hfa ht, ⟨?_, ?_, ?_⟩, fun j hj => ?_, ⟨?_, ?_, fun i h8 => ?_⟩, fun j => ?_⟩, hfa⟩
  · rw [(hf2.2.2.2.1 (D 0) (hPn (Or.inl (by omega)) (by omega))).1]
    refine (sj_fi_wFi_k _ _ _ (by omega)).trans ((sj_fi_wFi_k _ _ _ (by omega)).trans ?_)
    rw [hz]
  · rw [(hf2.2.2.2.1 (D 0) (hPn (Or.inl (by omega)) (by omega))).1]
    exact (sj_fi_wFi_k _ _ _ (by omega)).trans (sj_fi_wFi _ _ _ _)
  · rw [(hf2.2.2.2.1 (D 0) (hPn (Or.inl (by omega)) (by omega))).1]
    exact sj_fi_wFi _ _ _ _
  · rw [(hf2.2.2.2.1 (D 15) (hPn (Or.inr (by omega)) (by omega))).2.1]
    exact (congrFun (sj_ia_sIa _ _ _) j).trans (hf j hj)
  · rw [hT]
    exact sq_f0
  · rw [hT]
    exact sq_f1
  · rw [hT]
    refine (congrFun sq_r8 i).trans ?_
    exact if_pos h8
  · rw [(hf2.2.2.2.1 (D 1) (hPn (Or.inl (by omega)) (by omega))).2.2]
    exact congrFun hr j
theorem sq_t_fin {S U T : sj_St} {a o c : Nat} {L L8 : List Nat} {f : Nat → Int32} (hL : L.length = 19) (hfl : sq_fl S L U) (eo : L.getD 8 0 = o) (ec : L.getD 18 0 = c) (e8 : ∀ i, i < 9 → L.getD (8 + i) 0 = (o :: L8).getD i 0) (htl : sq_tl U (fun i => (a :: L).getD (sq_og i) 0)) (hz : sj_fi U a = fun _ => 0) (ho : sj_fi U o = fun _ => 0) (hr : sj_ra U (L.getD 5 0) = fun _ => none) (x : sq_xp (fun b => b = a) S U) (hf : ∀ j, j < 9 → f j = sj_t1 j) {f1 f2 f3 f7 : Nat → Int32} (hT : T = sq_os (sj_sIa (sj_wFi (sj_wFi U a 6 (-1)) a 7 (-1)) c f) o (fun i => (o :: L8).getD i 0) (nI 0, 0, f1, f2, f3, sj_cp 8 (sq_hn f1 f2 f3 0) f7)) : ∃ L : List Nat, L.length = 19 ∧ sq_fl S L T ∧ sq_nT T (fun i => (a :: L).getD (sq_og i) 0) ∧ sq_xp (fun b => b = a) S T := by
  have h2 : (o :: L8).getD 2 0 = L.getD 10 0 := (e8 2 (by omega)).symm
  have h4 : (o :: L8).getD 4 0 = L.getD 12 0 := (e8 4 (by omega)).symm
  have h6 : (o :: L8).getD 6 0 = L.getD 14 0 := (e8 6 (by omega)).symm
  have h8 : (o :: L8).getD 8 0 = L.getD 16 0 := (e8 8 (by omega)).symm
  unfold sq_os at hT
  dsimp only at hT
  rw [h2, h4, h6, h8, ← eo, ← ec] at hT
  rw [← eo] at ho
  obtain ⟨hn, hfr⟩ := sq_nT_mk (T := T) (f := f) htl hz ho hr hf (f1 := f1) (f2 := f2) (f3 := f3) (f7 := f7) hT
  refine ⟨L, hL, ⟨fun y hy => ?_, hfl.2⟩, hn, ?_⟩
  · obtain ⟨y1, c9, y2⟩ := hfl.1 y hy
    exact ⟨y1, c9, sq_kd_fr hfr y2⟩
  · refine sq_xp_tq x (sq_xp_fr hfr) (fun b c9 hb ⟨i, hi, e⟩ => ?_)
    have hcases : ∀ i, i < 20 → i = 0 ∨ ∃ j, j < 19 ∧ i = j + 1 := fun i hi => by
      by_cases h : i = 0
      · exact Or.inl h
      · exact Or.inr ⟨i - 1, by omega, by omega⟩
    rcases hcases _ (sq_og_lt hi) with h0 | ⟨j, hj, hj2⟩
    · have e' : b = (a :: L).getD (sq_og i) 0 := e
      rw [h0] at e'
      exact e'
    · have e' : b = (a :: L).getD (sq_og i) 0 := e
      rw [hj2] at e'
      have hm : b ∈ L := by
        rw [e']
        exact sq_gd_mem (L := L) (i := j) (by omega)
      have := (hfl.1 b hm).1
      rw [hb] at this
      cases this
set_option maxRecDepth 100000 in
set_option maxHeartbeats 300000 in
theorem ct_X4_init (l : Launch) {S : sj_St} {a : Nat} (kd_a0 : sj_kd S a = some 4) (hz : sj_fi S a = fun _ => 0) : sj_Ctr l mX4_init [.ref a] S (fun v T => v = none ∧ ∃ L : List Nat, L.length = 19 ∧ sq_fl S L T ∧ sq_nT T (fun i => (a :: L).getD (sq_og i) 0) ∧ sq_xp (fun b => b = a) S T) := by
  refine sj_start ([some (.ref a), none]) (by decide +kernel) rfl rfl (fun X hX C hR => ?_)
  subst hX
  have kd_a := kd_a0
  have cut_75 : ∀ (U : sj_St) (o r c : Nat) (d : Nat → Nat), sj_kd U a = some 4 → sj_rf U a 5 = some r → sj_rw U r c 9 → sj_rf U a 4 = some o → sq_ol U o d → sj_fi U o = (fun _ => 0) → (∀ (f1 f2 f3 f7 : Nat → Int32) (T : sj_St), T = sq_os (sj_sIa (sj_wFi (sj_wFi U a 6 (-1)) a 7 (-1)) c (sj_cp 9 sj_t1 (sj_ia U c))) o d (nI 0, 0, f1, f2, f3, sj_cp 8 (sq_hn f1 f2 f3 0) f7) → (∃ L : List Nat, L.length = 19 ∧ sq_fl S L T ∧ sq_nT T (fun i => (a :: L).getD (sq_og i) 0) ∧ sq_xp (fun b => b = a) S T)) → ∀ S', S' = sj_sIa (sj_wFi (sj_wFi U a 6 (-1)) a 7 (-1)) c (sj_cp 0 sj_t1 (sj_ia U c)) → sj_G X S' 19 505 [some (.ref a), some (.int (nI 0))] 75 [] := by
    intro U o r c d kd_a rf_a_5 hrw rf_a_4 hol hoz hpost
    have kd_r := hrw.1
    have kd_o := hol.1
    have hao : o ≠ a := fun e => by
      rw [e, kd_a] at kd_o
      cases kd_o
    refine sj_down (fun k => ∀ S', S' = sj_sIa (sj_wFi (sj_wFi U a 6 (-1)) a 7 (-1)) c (sj_cp k sj_t1 (sj_ia U c)) → sj_G X S' 19 505 [some (.ref a), some (.int (nI k))] 75 []) 9 (fun k hk ih => ?_)
    intro S' hS'
    subst hS'
    have hrw' : sj_rw (sj_sIa (sj_wFi (sj_wFi U a 6 (-1)) a 7 (-1)) c (sj_cp k sj_t1 (sj_ia U c))) r c 9 := hrw
    refine sj_iload_n C 76 rfl dX4_init_75 rfl rfl ?_
    refine sj_bipush C (9) 78 rfl dX4_init_76 (by decide) ?_
    refine sj_icmp_ge C 108 81 rfl rfl dX4_init_78 (fun c_78 => ?_) (fun c_78 => ?_)
    · have hk9 : k = 9 := by
        have h9 : ¬ k < 9 := fun h => nI_ge h (by omega) c_78
        omega
      subst hk9
      have ho0 : sj_fi (sj_sIa (sj_wFi (sj_wFi U a 6 (-1)) a 7 (-1)) c (sj_cp 9 sj_t1 (sj_ia U c))) o = fun _ => 0 := (sj_up_ne _ _ hao).trans ((sj_up_ne _ _ hao).trans hoz)
      have hjoin := ct_X1_joinHands X.2.1 (S := sj_sIa (sj_wFi (sj_wFi U a 6 (-1)) a 7 (-1)) c (sj_cp 9 sj_t1 (sj_ia U c))) (o := o) (d := d) hol (n := 0) (by omega) (w := 0) (f1 := sj_ia (sj_sIa (sj_wFi (sj_wFi U a 6 (-1)) a 7 (-1)) c (sj_cp 9 sj_t1 (sj_ia U c))) (d 2)) (f2 := sj_ia (sj_sIa (sj_wFi (sj_wFi U a 6 (-1)) a 7 (-1)) c (sj_cp 9 sj_t1 (sj_ia U c))) (d 4)) (f3 := sj_ia (sj_sIa (sj_wFi (sj_wFi U a 6 (-1)) a 7 (-1)) c (sj_cp 9 sj_t1 (sj_ia U c))) (d 6)) (f7 := sj_ia (sj_sIa (sj_wFi (sj_wFi U a 6 (-1)) a 7 (-1)) c (sj_cp 9 sj_t1 (sj_ia U c))) (d 8))
      have hid : sq_os (sj_sIa (sj_wFi (sj_wFi U a 6 (-1)) a 7 (-1)) c (sj_cp 9 sj_t1 (sj_ia U c))) o d (nI 0, 0, sj_ia (sj_sIa (sj_wFi (sj_wFi U a 6 (-1)) a 7 (-1)) c (sj_cp 9 sj_t1 (sj_ia U c))) (d 2), sj_ia (sj_sIa (sj_wFi (sj_wFi U a 6 (-1)) a 7 (-1)) c (sj_cp 9 sj_t1 (sj_ia U c))) (d 4), sj_ia (sj_sIa (sj_wFi (sj_wFi U a 6 (-1)) a 7 (-1)) c (sj_cp 9 sj_t1 (sj_ia U c))) (d 6), sj_ia (sj_sIa (sj_wFi (sj_wFi U a 6 (-1)) a 7 (-1)) c (sj_cp 9 sj_t1 (sj_ia U c))) (d 8)) = sj_sIa (sj_wFi (sj_wFi U a 6 (-1)) a 7 (-1)) c (sj_cp 9 sj_t1 (sj_ia U c)) := by
        have h := sq_os_eq (S := sj_sIa (sj_wFi (sj_wFi U a 6 (-1)) a 7 (-1)) c (sj_cp 9 sj_t1 (sj_ia U c))) (o := o) (d := d) (v := nI 0) (congrFun ho0 0)
        rw [show sj_fi (sj_sIa (sj_wFi (sj_wFi U a 6 (-1)) a 7 (-1)) c (sj_cp 9 sj_t1 (sj_ia U c))) o 1 = 0 from congrFun ho0 1] at h
        exact h
      rw [hid] at hjoin
      refine sj_aload_n C 109 rfl dX4_init_108 rfl rfl ?_
      refine sj_getr C 112 rfl fd_X4_36 dX4_init_109 kd_a rf_a_4 ?_
      refine sj_callVNv C 115 rfl dX4_init_112 cv_X4_58 rfl (hjoin) rfl rfl rfl ⟨_, _, kd_o, rfl, rfl, by decide⟩ ⟨rfl, rfl⟩ ?_
      refine sj_vret C hR rfl rfl dX4_init_115 ?_
      exact ⟨rfl, hpost _ _ _ _ _ rfl⟩
    · have hlt : k < 9 := Nat.not_le.mp fun h9 => c_78 (nI_le (a := 9) (b := k) h9 (by omega))
      refine sj_iload_n C 82 rfl dX4_init_81 rfl rfl ?_
      refine sj_getsR C false 85 rfl dX4_init_82 (Or.inr (List.mem_of_getElem? (i := 8) rfl)) (fun tab1 T_tab1 => ?_)
      refine sj_tlen C 86 rfl dX4_init_85 T_tab1 ?_
      refine sj_icmp_ge C 108 89 rfl rfl dX4_init_86 (fun c_86 => ?_) (fun c_86 => ?_)
      · exact absurd c_86 (show ¬ nI 9 ≤ nI k from nI_ge hlt (by omega))
      · refine sj_aload_n C 90 rfl dX4_init_89 rfl rfl ?_
        refine sj_getr C 93 rfl fd_X4_40 dX4_init_90 kd_a rf_a_5 ?_
        refine sj_iload_n C 94 rfl dX4_init_93 rfl rfl ?_
        refine sj_getsR C false 97 rfl dX4_init_94 (Or.inr (List.mem_of_getElem? (i := 8) rfl)) (fun tab2 T_tab2 => ?_)
        refine sj_iload_n C 98 rfl dX4_init_97 rfl rfl ?_
        refine sj_tld C 99 rfl dX4_init_98 T_tab2 (vp_in_nI hlt (by omega)) ?_
        have ek : (nI k).toNatClampNeg = k := nI_clamp (by omega)
        rw [ek]
        refine sj_callVv C 102 rfl dX4_init_99 cv_X4_54 rfl (ct_X2_put _ hrw' (nI k) (sj_t1 k)) rfl rfl rfl ⟨_, _, kd_r, rfl, rfl, by decide⟩ ⟨rfl, rfl⟩ ?_
        rw [sj_put_nI hlt (by decide), sj_wIa_eq, sj_ia_sIa, sj_sIa_sIa, sj_cp_s]
        refine sj_iinc_1 C 105 rfl dX4_init_102 rfl rfl ?_
        refine sj_goto C 75 rfl dX4_init_105 ?_
        rw [sj_n1]
        exact ih hlt _ rfl
  refine sj_aload_n C 1 rfl dX4_init_0 rfl rfl ?_
  refine sj_objI C 4 rfl dX4_init_1 (wr_2 _ (List.mem_of_getElem? (i := 19) (by decide +kernel))) rfl ?_
  refine sj_aload_n C 5 rfl dX4_init_4 rfl rfl ?_
  refine sj_new C 8 rfl kk_X3 dX4_init_5 (⟨wr_2 _ (List.mem_of_getElem? (i := 20) (by decide +kernel)), wr_2 _ (List.mem_of_getElem? (i := 21) (by decide +kernel)), wr_2 _ (List.mem_of_getElem? (i := 22) (by decide +kernel))⟩) rfl (fun a_5 fr_5 => ?_)
  refine sj_dup C 9 rfl dX4_init_8 rfl ?_
  refine sj_iconstv C (0) 10 rfl dX4_init_9 rfl ?_
  refine sj_null C 11 rfl dX4_init_10 ?_
  refine sj_callI C 14 rfl dX4_init_11 cv_X4_11 rfl (ct_X3_init_z _ (sj_kd_nO S a_5 3)) rfl rfl rfl rfl rfl (fun v_11 S_11 hp_11 => ?_)
  obtain ⟨rfl, hp_11⟩ := hp_11
  obtain ⟨rm, cm, rn, cn, f1⟩ := sq_fx_sheet (f := 0) kd_a fr_5 hp_11
  have kd_b : sj_kd S_11 a = some 4 := f1.1.2
  refine sj_putRF (v := some a_5) C 17 rfl fd_X4_14 dX4_init_14 rfl rfl rfl (fun _ _ _ h => by cases h; rfl) (sj_noN _ _ (by decide +kernel)) kd_b ?_
  generalize sj_wRf S_11 a 0 (some a_5) = U1 at f1  ⊢
  clear kd_b
  have kd_a := f1.1.2
  refine sj_aload_n C 18 rfl dX4_init_17 rfl rfl ?_
  refine sj_bipush C (8) 20 rfl dX4_init_18 (by decide) ?_
  rw [show (8 : Int32) = nI 8 from rfl]
  refine sj_newq C 23 rfl (Or.inl rfl) dX4_init_20 (wr_2 _ (List.mem_of_getElem? (i := 20) (by decide +kernel))) (by omega) rfl (fun a_20 fr_20 => ?_)
  refine sj_putRF (v := some a_20) C 26 rfl fd_X4_20 dX4_init_23 rfl rfl rfl (fun _ _ _ h => by cases h; rfl) (sj_noN _ _ (by decide +kernel)) (sq_x_k (sq_xp_nR (P := fun _ => False) fr_20) kd_a) ?_
  obtain ⟨f2, k2, l2, z2⟩ := sq_fx_nR (f := 1) (ci := 9) (n := 8) kd_a fr_20
  generalize sj_wRf (sj_nR U1 a_20 9 8) a 1 (some a_20) = U2 at f2 k2 l2 z2 ⊢
  have kd_a := f2.1.2
  refine sj_aload_n C 27 rfl dX4_init_26 rfl rfl ?_
  refine sj_new C 30 rfl kk_X2 dX4_init_27 (⟨wr_3 _ (List.mem_of_getElem? (i := 1) (by decide +kernel)), wr_2 _ (List.mem_of_getElem? (i := 4) (by decide +kernel)), wr_2 _ (List.mem_of_getElem? (i := 5) (by decide +kernel))⟩) rfl (fun a_27 fr_27 => ?_)
  refine sj_dup C 31 rfl dX4_init_30 rfl ?_
  refine sj_bipush C (8) 33 rfl dX4_init_31 (by decide) ?_
  rw [show (8 : Int32) = nI 8 from rfl]
  refine sj_callI C 36 rfl dX4_init_33 cv_X4_26 rfl (ct_X2_init_8 _ (sj_kd_nO U2 a_27 2)) rfl rfl rfl rfl rfl (fun v_33 S_33 hp_33 => ?_)
  obtain ⟨rfl, hp_33⟩ := hp_33
  obtain ⟨c3, f3, r3, z3⟩ := sq_fx_row (f := 2) kd_a fr_27 hp_33
  have kd_b : sj_kd S_33 a = some 4 := f3.1.2
  refine sj_putRF (v := some a_27) C 39 rfl fd_X4_29 dX4_init_36 rfl rfl rfl (fun _ _ _ h => by cases h; rfl) (sj_noN _ _ (by decide +kernel)) kd_b ?_
  generalize sj_wRf S_33 a 2 (some a_27) = U3 at f3 r3 z3 ⊢
  clear kd_b
  have kd_a := f3.1.2
  refine sj_aload_n C 40 rfl dX4_init_39 rfl rfl ?_
  refine sj_new C 43 rfl kk_X1 dX4_init_40 (⟨wr_3 _ (List.mem_of_getElem? (i := 3) (by decide +kernel)), wr_3 _ (List.mem_of_getElem? (i := 4) (by decide +kernel)), wr_3 _ (List.mem_of_getElem? (i := 5) (by decide +kernel))⟩) rfl (fun a_40 fr_40 => ?_)
  refine sj_dup C 44 rfl dX4_init_43 rfl ?_
  refine sj_callIN C 47 rfl dX4_init_44 cv_X4_35 rfl (ct_X1_init _ (sj_kd_nO U3 a_40 1)) rfl rfl rfl rfl rfl (fun v_44 S_44 hp_44 => ?_)
  obtain ⟨rfl, L8, hL8, q1, q2, q3, q4⟩ := hp_44
  obtain ⟨f4, w4, w4z⟩ := sq_fx_oaths (f := 4) kd_a fr_40 q1 q2 hL8 q3 q4
  have kd_b : sj_kd S_44 a = some 4 := f4.1.2
  refine sj_putRF (v := some a_40) C 50 rfl fd_X4_36 dX4_init_47 rfl rfl rfl (fun _ _ _ h => by cases h; rfl) (sj_noN _ _ (by decide +kernel)) kd_b ?_
  generalize sj_wRf S_44 a 4 (some a_40) = U4 at f4 w4 w4z ⊢
  clear kd_b
  have kd_a := f4.1.2
  refine sj_aload_n C 51 rfl dX4_init_50 rfl rfl ?_
  refine sj_new C 54 rfl kk_X2 dX4_init_51 (⟨wr_3 _ (List.mem_of_getElem? (i := 1) (by decide +kernel)), wr_2 _ (List.mem_of_getElem? (i := 4) (by decide +kernel)), wr_2 _ (List.mem_of_getElem? (i := 5) (by decide +kernel))⟩) rfl (fun a_51 fr_51 => ?_)
  refine sj_dup C 55 rfl dX4_init_54 rfl ?_
  refine sj_bipush C (9) 57 rfl dX4_init_55 (by decide) ?_
  rw [show (9 : Int32) = nI 9 from rfl]
  refine sj_callI C 60 rfl dX4_init_57 cv_X4_26 rfl (ct_X2_init_9 _ (sj_kd_nO U4 a_51 2)) rfl rfl rfl rfl rfl (fun v_57 S_57 hp_57 => ?_)
  obtain ⟨rfl, hp_57⟩ := hp_57
  obtain ⟨c5, f5, r5, z5⟩ := sq_fx_row (f := 5) kd_a fr_51 hp_57
  have kd_b : sj_kd S_57 a = some 4 := f5.1.2
  refine sj_putRF (v := some a_51) C 63 rfl fd_X4_40 dX4_init_60 rfl rfl rfl (fun _ _ _ h => by cases h; rfl) (sj_noN _ _ (by decide +kernel)) kd_b ?_
  generalize sj_wRf S_57 a 5 (some a_51) = U5 at f5 r5 z5 ⊢
  clear kd_b
  have kd_a := f5.1.2
  obtain ⟨L, hL, hfl, ⟨eo, er, ec, e8⟩, htl, hz5, ho5, hr5, x5⟩ := sq_tl_mk kd_a0 hz f1 f2 k2 l2 z2 f3 r3 f4 hL8 w4 w4z f5 r5
  have rf_a_5 : sj_rf U5 a 5 = some a_51 := f5.2.1
  have rf_a_4 : sj_rf U5 a 4 = some a_40 := (f5.2.2.1 4 (by omega)).trans f4.2.1
  have hol5 : sq_ol U5 a_40 (fun i => (a_40 :: L8).getD i 0) := sq_ol_xp f5.2.2.2.2 (sq_fx_ne f4 f3.1.2 List.mem_cons_self) (fun i hi => sq_fx_ne f4 f3.1.2 (sq_gd_mem (by show i < L8.length + 1; omega))) w4
  have HP : ∀ (f1 f2 f3 f7 : Nat → Int32) (T : sj_St), T = sq_os (sj_sIa (sj_wFi (sj_wFi U5 a 6 (-1)) a 7 (-1)) c5 (sj_cp 9 sj_t1 (sj_ia U5 c5))) a_40 (fun i => (a_40 :: L8).getD i 0) (nI 0, 0, f1, f2, f3, sj_cp 8 (sq_hn f1 f2 f3 0) f7) → (∃ L : List Nat, L.length = 19 ∧ sq_fl S L T ∧ sq_nT T (fun i => (a :: L).getD (sq_og i) 0) ∧ sq_xp (fun b => b = a) S T) := fun f1 f2 f3 f7 T hT => sq_t_fin hL hfl eo ec e8 htl hz5 ho5 hr5 x5 (fun j hj => if_pos hj) hT
  refine sj_aload_n C 64 rfl dX4_init_63 rfl rfl ?_
  refine sj_iconstv C (-1) 65 rfl dX4_init_64 rfl ?_
  refine sj_putI C 68 rfl fd_X4_43 dX4_init_65 rfl rfl kd_a ?_
  refine sj_aload_n C 69 rfl dX4_init_68 rfl rfl ?_
  refine sj_iconstv C (-1) 70 rfl dX4_init_69 rfl ?_
  refine sj_putI C 73 rfl fd_X4_47 dX4_init_70 rfl rfl kd_a ?_
  refine sj_iconstv C (0) 74 rfl dX4_init_73 rfl ?_
  refine sj_istore_n_1 C 75 rfl dX4_init_74 rfl rfl ?_
  exact cut_75 U5 a_40 a_51 c5 (fun i => (a_40 :: L8).getD i 0) kd_a rf_a_5 r5 rf_a_4 hol5 ho5 HP _ (by rw [sj_cp_0]; exact (sj_sIa_idv rfl).symm)
