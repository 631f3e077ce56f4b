/-! THE CLASS ITSELF: what its changes keep -/
def sq_Qs (m : Nat → Int32) (Q : Nat → Nat → Int32) : Nat → Nat → Int32
  | 0 => m
  | j + 1 => Q j
def sq_q6 (q : Nat) : Nat := if q < 6 then q + 1 else q
theorem sq_inj {g : Nat → Nat} (h : ∀ i j, i < 160 → j < 160 → g i = g j → i = j) {i j : Nat} (hij : i ≠ j) (hi : i < 160 := by omega) (hj : j < 160 := by omega) : g i ≠ g j := fun e => hij (h i j hi hj e)
theorem sq_P_no {g : Nat → Nat} (h : ∀ i j, i < 160 → j < 160 → g i = g j → i = j) {t k : Nat} (ht : t < 8) (hk : k < 160) (hno : ¬ (16 * t ≤ k ∧ k < 16 * t + 16)) : ¬ sq_P (sq_D g t) (g k) := fun ⟨i, hi, e⟩ => by
  have := h k (16 * t + i) hk (by omega) e
  omega
theorem sq_P_F {g : Nat → Nat} {t : Nat} (ht : t < 8) : ∀ a, sq_P (sq_D g t) a → sq_F g a := fun a ⟨i, hi, e⟩ => ⟨16 * t + i, by omega, e⟩
theorem sq_P_C {g : Nat → Nat} {t : Nat} (ht : t < 8) : ∀ a, sq_P (sq_D g t) a → sq_Cl g a := fun a ⟨i, hi, e⟩ => ⟨16 * t + i, by omega, e⟩
theorem sq_P_D {g : Nat → Nat} (h : ∀ i j, i < 160 → j < 160 → g i = g j → i = j) {t u : Nat} (ht : t < 8) (hu : u < 8) (htu : t ≠ u) {i : Nat} (hi : i < 16) : ¬ sq_P (sq_D g t) (sq_D g u i) := sq_P_no h ht (by omega) (by omega)
theorem sq_D_tp {g : Nat → Nat} (h : ∀ i j, i < 160 → j < 160 → g i = g j → i = j) {t u : Nat} (ht : t < 8) (hu : u < 8) (htu : t ≠ u) : sq_tp (sq_D g t) (sq_D g u) := fun i j hi hj e => by
  have := h (16 * t + i) (16 * u + j) (by omega) (by omega) e
  omega
theorem sq_CL_fr {P : Nat → Prop} {S T : sj_St} {g : Nat → Nat} (h : sq_fr P S T) (hP : ¬ P (g 140)) (hC : sq_CL S g) : sq_CL T g := by
  obtain ⟨⟨c1, c2, c3, c4, c5⟩, ct, ⟨d1, d2, d3, d4, d5⟩, ci⟩ := hC
  refine ⟨⟨sq_kd_fr h c1, ?_, ?_, ?_, ?_⟩, fun t ht => sq_tl_fr h (ct t ht), ⟨sq_kd_fr h d1, ?_, sq_kd_fr h d3, ?_, fun j hj => ?_⟩, ci⟩
  · exact (congrFun (congrFun h.2.1 _) _).trans c2
  · exact (congrFun (congrFun h.2.1 _) _).trans c3
  · exact (congrFun (congrFun h.2.1 _) _).trans c4
  · exact (congrFun (congrFun h.2.1 _) _).trans c5
  · exact (congrFun (congrFun h.2.1 _) _).trans d2
  · exact (congrFun h.2.2.1 _).trans d4
  · rw [(h.2.2.2.1 _ hP).2.2]
    exact d5 j hj
theorem sq_xl_fr {P : Nat → Prop} {S T : sj_St} (h : sq_fr P S T) {x : Nat} {e : Nat → Nat} {n : Nat} {B : Nat → Int32} (h0 : ¬ P x) (h2 : ¬ P (e 2)) (g : sq_xl S x e n B) : sq_xl T x e n B := by
  obtain ⟨g0, g1, g2, g3, g4, g5, ⟨g6, g7, g8⟩, g9⟩ := g
  refine ⟨sq_kd_fr h g0, ⟨(congrFun (congrFun h.2.1 _) _).trans g1.1, sj_rw_fr h g1.2⟩, ⟨(congrFun (congrFun h.2.1 _) _).trans g2.1, sj_rw_fr h g2.2⟩, ⟨(congrFun (congrFun h.2.1 _) _).trans g3.1, sj_rw_fr h g3.2⟩, ⟨(congrFun (congrFun h.2.1 _) _).trans g4.1, sj_rw_fr h g4.2⟩, ⟨(congrFun (congrFun h.2.1 _) _).trans g5.1, sj_rw_fr h g5.2⟩, ⟨?_, g7, fun j hj => ?_⟩, g9⟩
  · rw [(h.2.2.2.1 _ h0).1]
    exact g6
  · rw [(h.2.2.2.1 _ h2).2.1]
    exact g8 j hj
section
variable {S T : sj_St} {g : Nat → Nat} {m m' : Nat → Int32} {hs : Bool} {ms : Nat → Int32} {p q : Nat} {Q : Nat → Nat → Int32} {n : Nat} {B : Nat → Int32}
theorem sq_pl_lt (p j : Nat) : sq_pl p j < 8 ∧ 2 ≤ sq_pl p j := by
  unfold sq_pl
  have := Nat.mod_lt (p + 6 - j) (show 0 < 6 by omega)
  omega
/-- the main table is changed -/
theorem sq_W_main (hW : sq_W S g m hs ms p q Q n B) (h : sq_fr (sq_P (sq_D g 0)) S T) (hT : sq_T T (sq_F g) (sq_D g 0) m') (hk : sq_k3 T (sq_D g 0)) : sq_W T g m' hs ms p q Q n B := by
  obtain ⟨hC, ⟨-, h4, hT1⟩, hK3, ⟨hH1, hp6, hH2, hq6, hQ⟩, hX, hB⟩ := hW
  have hi := hC.2.2.2
  refine ⟨sq_CL_fr h (sq_P_no hi (by omega) (by omega) (by omega)) hC, ⟨hT, ?_, fun e => ?_⟩, fun t ht => ?_, ⟨?_, hp6, ?_, hq6, fun j hj => ?_⟩, ?_, hB⟩
  · rw [(h.2.2.2.1 _ (sq_P_no hi (k := 141) (by omega) (by omega) (by omega))).1]
    exact h4
  · exact sq_T_fr h (sq_P_F (by omega)) (fun i hi9 => sq_P_D hi (by omega) (by omega) (by omega) hi9) (hT1 e)
  · by_cases h0 : t = 0
    · rw [h0]
      exact hk
    · exact sq_k3_fr h (sq_P_D hi (by omega) ht (by omega) (by omega)) (hK3 t ht)
  · rw [(h.2.2.2.1 _ (sq_P_no hi (k := 139) (by omega) (by omega) (by omega))).1]
    exact hH1
  · rw [(h.2.2.2.1 _ (sq_P_no hi (k := 139) (by omega) (by omega) (by omega))).1]
    exact hH2
  · have := sq_pl_lt p j
    exact sq_T_fr h (sq_P_F (by omega)) (fun i hi9 => sq_P_D hi (by omega) (by omega) (by omega) hi9) (hQ j hj)
  · exact sq_xl_fr h (sq_P_no hi (k := 128) (by omega) (by omega) (by omega)) (sq_P_no hi (k := 128 + 2) (by omega) (by omega) (by omega)) hX
/-- a field of the history -/
theorem sq_Hfr (k : Nat) (v : Int32) : sq_fr (fun a => a = g 139) S (sj_wFi S (g 139) k v) := sq_fr_fi k v rfl
theorem sq_T_H (hi : ∀ i j, i < 160 → j < 160 → g i = g j → i = j) {t : Nat} (ht : t < 8) (h : sq_T S (sq_F g) (sq_D g t) m) (k : Nat) (v : Int32) : sq_T (sj_wFi S (g 139) k v) (sq_F g) (sq_D g t) m := sq_T_fr (sq_Hfr k v) (fun a e => ⟨139, by omega, e⟩) (fun i hi9 e => by
    have := hi (16 * t + i) 139 (by omega) (by omega) e
    omega) h
/-- a state saved -/
theorem sq_W_save (hW : sq_W S g m hs ms p q Q n B) (hI : sj_inv m) : sq_W (sq_svS S (g 139) (fun j => sq_D g (2 + j)) (sq_D g 0) p q) g m hs ms (sq_n6 p) (sq_q6 q) (sq_Qs m Q) n B ∧ sq_fr (sq_Cl g) S (sq_svS S (g 139) (fun j => sq_D g (2 + j)) (sq_D g 0) p q) := by
  obtain ⟨hC, ⟨hT, h4, hT1⟩, hK3, ⟨hH1, hp6, hH2, hq6, hQ⟩, hX, hB⟩ := hW
  have hi := hC.2.2.2
  have hn6 := sq_n6_lt p
  have f1 := sq_Hfr (S := S) (g := g) 1 (nI (sq_n6 p))
  have tl1 : ∀ t, t < 8 → sq_tl (sj_wFi S (g 139) 1 (nI (sq_n6 p))) (sq_D g t) := fun t ht => sq_tl_fr f1 (hC.2.1 t ht)
  have f2 : sq_fr (sq_P (sq_D g (2 + sq_n6 p))) (sj_wFi S (g 139) 1 (nI (sq_n6 p))) (sq_sv1 S (g 139) (fun j => sq_D g (2 + j)) (sq_D g 0) p) := sq_fr_to _ _ _
  have T0 : sq_T (sj_wFi S (g 139) 1 (nI (sq_n6 p))) (sq_F g) (sq_D g 0) m := sq_T_H hi (by omega) hT 1 _
  have hnew : sq_T (sq_sv1 S (g 139) (fun j => sq_D g (2 + j)) (sq_D g 0) p) (sq_F g) (sq_D g (2 + sq_n6 p)) m := sq_T_to (tl1 _ (by omega)) (sq_P_F (by omega)) (sq_D_tp hi (by omega) (by omega) (by omega)) hI T0
  have hknew : sq_k3 (sq_sv1 S (g 139) (fun j => sq_D g (2 + j)) (sq_D g 0) p) (sq_D g (2 + sq_n6 p)) := sq_k3_to (tl1 _ (by omega)) (hK3 0 (by omega))
  have old : ∀ t M, t < 8 → t ≠ 2 + sq_n6 p → sq_T S (sq_F g) (sq_D g t) M → sq_T (sq_sv1 S (g 139) (fun j => sq_D g (2 + j)) (sq_D g 0) p) (sq_F g) (sq_D g t) M := fun t M ht hne h => sq_T_fr f2 (sq_P_F (by omega)) (fun i hi9 => sq_P_D hi (by omega) ht (fun e => hne e.symm) hi9) (sq_T_H hi ht h 1 _)
  have oldk : ∀ t, t < 8 → sq_k3 (sq_sv1 S (g 139) (fun j => sq_D g (2 + j)) (sq_D g 0) p) (sq_D g t) := fun t ht => by
    by_cases hne : t = 2 + sq_n6 p
    · rw [hne]
      exact hknew
    · exact sq_k3_fr f2 (sq_P_D hi (by omega) ht (fun e => hne e.symm) (by omega)) (hK3 t ht)
  have no : ∀ k, 128 ≤ k → k < 160 → ¬ sq_P (sq_D g (2 + sq_n6 p)) (g k) := fun k h1 h2 => sq_P_no hi (by omega) h2 (by omega)
  have e1 : sj_fi (sq_sv1 S (g 139) (fun j => sq_D g (2 + j)) (sq_D g 0) p) (g 139) 1 = nI (sq_n6 p) := by
    rw [(f2.2.2.2.1 _ (no 139 (by omega) (by omega))).1]
    exact sj_fi_wFi _ _ _ _
  have e2 : sj_fi (sq_sv1 S (g 139) (fun j => sq_D g (2 + j)) (sq_D g 0) p) (g 139) 2 = nI q := by
    rw [(f2.2.2.2.1 _ (no 139 (by omega) (by omega))).1]
    exact (sj_fi_wFi_k _ _ _ (by omega)).trans hH2
  have e4 : sj_fi (sq_sv1 S (g 139) (fun j => sq_D g (2 + j)) (sq_D g 0) p) (g 141) 4 = sj_bi hs := by
    rw [(f2.2.2.2.1 _ (no 141 (by omega) (by omega))).1]
    exact (sj_fi_wFi_a _ _ _ _ (sq_inj hi (by omega))).trans h4
  have hC2 : sq_CL (sq_sv1 S (g 139) (fun j => sq_D g (2 + j)) (sq_D g 0) p) g := sq_CL_fr f2 (no 140 (by omega) (by omega)) (sq_CL_fr f1 (sq_inj hi (by omega)) hC)
  have hX2 : sq_xl (sq_sv1 S (g 139) (fun j => sq_D g (2 + j)) (sq_D g 0) p) (g 128) (sq_E g) n B := sq_xl_fr f2 (no 128 (by omega) (by omega)) (no (128 + 2) (by omega) (by omega)) (sq_xl_fr f1 (sq_inj hi (by omega)) (sq_inj hi (i := 128 + 2) (j := 139) (by omega)) hX)
  have fr1 : sq_fr (sq_Cl g) S (sq_sv1 S (g 139) (fun j => sq_D g (2 + j)) (sq_D g 0) p) := sq_fr_tr (sq_fr_up f1 (fun a e => ⟨139, by omega, e⟩)) (sq_fr_up f2 (sq_P_C (by omega)))
  have hpl : ∀ j, j < sq_q6 q → sq_T (sq_sv1 S (g 139) (fun j => sq_D g (2 + j)) (sq_D g 0) p) (sq_F g) (sq_D g (sq_pl (sq_n6 p) j)) (sq_Qs m Q j) := by
    intro j hj
    have hq' : sq_q6 q ≤ 6 ∧ sq_q6 q ≤ q + 1 := by
      unfold sq_q6
      split <;> omega
    cases j with
    | zero =>
      have : sq_pl (sq_n6 p) 0 = 2 + sq_n6 p := by
        unfold sq_pl
        omega
      rw [this]
      exact hnew
    | succ j =>
      have e : sq_pl (sq_n6 p) (j + 1) = sq_pl p j := by
        unfold sq_pl sq_n6
        split <;> omega
      have hne : sq_pl (sq_n6 p) (j + 1) ≠ 2 + sq_n6 p := by
        unfold sq_pl
        omega
      rw [e] at hne ⊢
      exact old _ _ (sq_pl_lt p j).1 hne (hQ j (by omega))
  unfold sq_svS
  by_cases h6 : q < 6
  · have eq6 : sq_q6 q = q + 1 := if_pos h6
    rw [if_pos h6, eq6]
    have f3 := sq_Hfr (S := sq_sv1 S (g 139) (fun j => sq_D g (2 + j)) (sq_D g 0) p) (g := g) 2 (nI (q + 1))
    refine ⟨⟨sq_CL_fr f3 (sq_inj hi (by omega)) hC2, ⟨sq_T_H hi (by omega) (old 0 m (by omega) (by omega) hT) 2 _, (sj_fi_wFi_a _ _ _ _ (sq_inj hi (by omega))).trans e4, fun e => sq_T_H hi (by omega) (old 1 ms (by omega) (by omega) (hT1 e)) 2 _⟩, fun t ht => sq_k3_fr f3 (sq_inj hi (i := 16 * t + 1) (j := 139) (by omega)) (oldk t ht), ⟨(sj_fi_wFi_k _ _ _ (by omega)).trans e1, hn6, sj_fi_wFi _ _ _ _, by omega, fun j hj => sq_T_H hi (sq_pl_lt _ j).1 (hpl j (by rw [eq6]; exact hj)) 2 _⟩, sq_xl_fr f3 (sq_inj hi (by omega)) (sq_inj hi (i := 128 + 2) (j := 139) (by omega)) hX2, hB⟩, sq_fr_tr fr1 (sq_fr_up f3 (fun a e => ⟨139, by omega, e⟩))⟩
  · have eq6 : sq_q6 q = q := if_neg h6
    rw [if_neg h6, eq6]
    exact ⟨⟨hC2, ⟨old 0 m (by omega) (by omega) hT, e4, fun e => old 1 ms (by omega) (by omega) (hT1 e)⟩, oldk, ⟨e1, hn6, e2, by omega, fun j hj => hpl j (by rw [eq6]; exact hj)⟩, hX2, hB⟩, fr1⟩
/-- a state brought back -/
theorem sq_W_undo (hW : sq_W S g m hs ms p q Q n B) (h0 : 0 < q) (hI : sj_inv (Q 0)) : sq_W (sq_bbS S (g 139) (fun j => sq_D g (2 + j)) (sq_D g 0) p q) g (Q 0) hs ms (sq_p6 p) (q - 1) (fun j => Q (j + 1)) n B ∧ sq_fr (sq_Cl g) S (sq_bbS S (g 139) (fun j => sq_D g (2 + j)) (sq_D g 0) p q) := by
  obtain ⟨hC, ⟨hT, h4, hT1⟩, hK3, ⟨hH1, hp6, hH2, hq6, hQ⟩, hX, hB⟩ := hW
  have hi := hC.2.2.2
  have f2 : sq_fr (sq_P (sq_D g 0)) S (sq_to S (sq_D g 0) (sq_D g (2 + p))) := sq_fr_to _ _ _
  have hpl0 : sq_pl p 0 = 2 + p := by
    unfold sq_pl
    omega
  have hT0 : sq_T (sq_to S (sq_D g 0) (sq_D g (2 + p))) (sq_F g) (sq_D g 0) (Q 0) := sq_T_to (hC.2.1 0 (by omega)) (sq_P_F (by omega)) (sq_D_tp hi (by omega) (by omega) (by omega)) hI (by
    have := hQ 0 h0
    rw [hpl0] at this
    exact this)
  have w1 := sq_W_main (m' := Q 0) ⟨hC, ⟨hT, h4, hT1⟩, hK3, ⟨hH1, hp6, hH2, hq6, hQ⟩, hX, hB⟩ f2 hT0 (sq_k3_to (hC.2.1 0 (by omega)) (hK3 (2 + p) (by omega)))
  obtain ⟨hC2, ⟨hT2, h42, hT12⟩, hK32, ⟨hH12, -, hH22, -, hQ2⟩, hX2, -⟩ := w1
  have fa := sq_Hfr (S := sq_to S (sq_D g 0) (sq_D g (2 + p))) (g := g) 1 (nI (sq_p6 p))
  have fb := sq_Hfr (S := sj_wFi (sq_to S (sq_D g 0) (sq_D g (2 + p))) (g 139) 1 (nI (sq_p6 p))) (g := g) 2 (nI (q - 1))
  have f := sq_fr_tr fa fb
  have tt : ∀ t M, t < 8 → sq_T (sq_to S (sq_D g 0) (sq_D g (2 + p))) (sq_F g) (sq_D g t) M → sq_T (sq_bbS S (g 139) (fun j => sq_D g (2 + j)) (sq_D g 0) p q) (sq_F g) (sq_D g t) M := fun t M ht h => sq_T_H hi ht (sq_T_H hi ht h 1 _) 2 _
  refine ⟨⟨sq_CL_fr f (sq_inj hi (by omega)) hC2, ⟨tt 0 _ (by omega) hT2, ?_, fun e => tt 1 _ (by omega) (hT12 e)⟩, fun t ht => sq_k3_fr f (sq_inj hi (i := 16 * t + 1) (j := 139) (by omega)) (hK32 t ht), ⟨?_, sq_p6_lt hp6, sj_fi_wFi _ _ _ _, by omega, fun j hj => ?_⟩, sq_xl_fr f (sq_inj hi (by omega)) (sq_inj hi (i := 128 + 2) (j := 139) (by omega)) hX2, hB⟩, sq_fr_tr (sq_fr_up f2 (sq_P_C (by omega))) (sq_fr_up f (fun a e => ⟨139, by omega, e⟩))⟩
  · exact (sj_fi_wFi_a _ _ _ _ (sq_inj hi (by omega))).trans ((sj_fi_wFi_a _ _ _ _ (sq_inj hi (by omega))).trans h42)
  · exact (sj_fi_wFi_k _ _ _ (by omega)).trans (sj_fi_wFi _ _ _ _)
  · have e : sq_pl (sq_p6 p) j = sq_pl p (j + 1) := by
      unfold sq_pl sq_p6
      split <;> omega
    rw [e]
    exact tt _ _ (sq_pl_lt p (j + 1)).1 (hQ2 (j + 1) (by omega))
/-- the snapshot -/
theorem sq_W_keep (hW : sq_W S g m hs ms p q Q n B) (hI : sj_inv m) : sq_W (sj_wFi (sq_to S (sq_D g 1) (sq_D g 0)) (g 141) 4 1) g m true m p q Q n B ∧ sq_fr (sq_Cl g) S (sj_wFi (sq_to S (sq_D g 1) (sq_D g 0)) (g 141) 4 1) := by
  obtain ⟨hC, ⟨hT, h4, hT1⟩, hK3, ⟨hH1, hp6, hH2, hq6, hQ⟩, hX, hB⟩ := hW
  have hi := hC.2.2.2
  have f2 : sq_fr (sq_P (sq_D g 1)) S (sq_to S (sq_D g 1) (sq_D g 0)) := sq_fr_to _ _ _
  have f3 : sq_fr (fun a => a = g 141) (sq_to S (sq_D g 1) (sq_D g 0)) (sj_wFi (sq_to S (sq_D g 1) (sq_D g 0)) (g 141) 4 1) := sq_fr_fi 4 1 rfl
  have hnew := sq_T_to (hC.2.1 1 (by omega)) (sq_P_F (by omega)) (sq_D_tp hi (t := 1) (u := 0) (by omega) (by omega) (by omega)) hI hT
  have no : ∀ k, 128 ≤ k → k < 160 → ¬ sq_P (sq_D g 1) (g k) := fun k h1 h2 => sq_P_no hi (by omega) h2 (by omega)
  have t3 : ∀ t M, t < 8 → sq_T (sq_to S (sq_D g 1) (sq_D g 0)) (sq_F g) (sq_D g t) M → sq_T (sj_wFi (sq_to S (sq_D g 1) (sq_D g 0)) (g 141) 4 1) (sq_F g) (sq_D g t) M := fun t M ht h => sq_T_fr f3 (fun a e => ⟨141, by omega, e⟩) (fun i hi9 e => by
    have := hi (16 * t + i) 141 (by omega) (by omega) e
    omega) h
  have old : ∀ t M, t < 8 → t ≠ 1 → sq_T S (sq_F g) (sq_D g t) M → sq_T (sj_wFi (sq_to S (sq_D g 1) (sq_D g 0)) (g 141) 4 1) (sq_F g) (sq_D g t) M := fun t M ht hne h => t3 t M ht (sq_T_fr f2 (sq_P_F (by omega)) (fun i hi9 => sq_P_D hi (by omega) ht (fun e => hne e.symm) hi9) h)
  refine ⟨⟨sq_CL_fr f3 (sq_inj hi (by omega)) (sq_CL_fr f2 (no 140 (by omega) (by omega)) hC), ⟨old 0 m (by omega) (by omega) hT, sj_fi_wFi _ _ _ _, fun _ => t3 1 m (by omega) hnew⟩, fun t ht => ?_, ⟨?_, hp6, ?_, hq6, fun j hj => ?_⟩, ?_, hB⟩, sq_fr_tr (sq_fr_up f2 (sq_P_C (by omega))) (sq_fr_up f3 (fun a e => ⟨141, by omega, e⟩))⟩
  · refine sq_k3_fr f3 (sq_inj hi (i := 16 * t + 1) (j := 141) (by omega)) ?_
    by_cases h1 : t = 1
    · rw [h1]
      exact sq_k3_to (hC.2.1 1 (by omega)) (hK3 0 (by omega))
    · exact sq_k3_fr f2 (sq_P_D hi (by omega) ht (fun e => h1 e.symm) (by omega)) (hK3 t ht)
  · refine (sj_fi_wFi_a _ _ _ _ (sq_inj hi (by omega))).trans ?_
    rw [(f2.2.2.2.1 _ (no 139 (by omega) (by omega))).1]
    exact hH1
  · refine (sj_fi_wFi_a _ _ _ _ (sq_inj hi (by omega))).trans ?_
    rw [(f2.2.2.2.1 _ (no 139 (by omega) (by omega))).1]
    exact hH2
  · have := sq_pl_lt p j
    exact old _ _ (by omega) (by omega) (hQ j hj)
  · exact sq_xl_fr f3 (sq_inj hi (by omega)) (sq_inj hi (i := 128 + 2) (j := 141) (by omega)) (sq_xl_fr f2 (no 128 (by omega) (by omega)) (no (128 + 2) (by omega) (by omega)) hX)
/-- the snapshot taken over -/
theorem sq_W_back (hW : sq_W S g m true ms p q Q n B) (hI : sj_inv ms) : sq_W (sq_to S (sq_D g 0) (sq_D g 1)) g ms true ms p q Q n B ∧ sq_fr (sq_Cl g) S (sq_to S (sq_D g 0) (sq_D g 1)) := by
  have hC := hW.1
  have hi := hC.2.2.2
  have f2 : sq_fr (sq_P (sq_D g 0)) S (sq_to S (sq_D g 0) (sq_D g 1)) := sq_fr_to _ _ _
  exact ⟨sq_W_main hW f2 (sq_T_to (hC.2.1 0 (by omega)) (sq_P_F (by omega)) (sq_D_tp hi (by omega) (by omega) (by omega)) hI (hW.2.1.2.2 rfl)) (sq_k3_to (hC.2.1 0 (by omega)) (hW.2.2.1 1 (by omega))), sq_fr_up f2 (sq_P_C (by omega))⟩
/-- the cells of the text -/
def sq_Xc (g : Nat → Nat) (a : Nat) : Prop := ∃ i, i < 11 ∧ a = sq_E g i
/-- the text is changed -/
theorem sq_W_text (hW : sq_W S g m hs ms p q Q n B) (h : sq_fr (sq_Xc g) S T) {n' : Nat} {B' : Nat → Int32} (hX : sq_xl T (g 128) (sq_E g) n' B') (hB : sq_cd B' n') : sq_W T g m hs ms p q Q n' B' ∧ sq_fr (sq_Cl g) S T := by
  obtain ⟨hC, ⟨hT, h4, hT1⟩, hK3, ⟨hH1, hp6, hH2, hq6, hQ⟩, -, -⟩ := hW
  have hi := hC.2.2.2
  have no : ∀ k, k < 160 → (k < 128 ∨ 139 ≤ k) → ¬ sq_Xc g (g k) := fun k hk h9 ⟨i, hi9, e⟩ => by
    have := hi k (128 + i) hk (by omega) e
    omega
  have tt : ∀ t M, t < 8 → sq_T S (sq_F g) (sq_D g t) M → sq_T T (sq_F g) (sq_D g t) M := fun t M ht g9 => sq_T_fr h (fun a ⟨i, hi9, e⟩ => ⟨128 + i, by omega, e⟩) (fun i hi9 => no (16 * t + i) (by omega) (by omega)) g9
  refine ⟨⟨sq_CL_fr h (no 140 (by omega) (by omega)) hC, ⟨tt 0 m (by omega) hT, ?_, fun e => tt 1 ms (by omega) (hT1 e)⟩, fun t ht => sq_k3_fr h (no (16 * t + 1) (by omega) (by omega)) (hK3 t ht), ⟨?_, hp6, ?_, hq6, fun j hj => tt _ _ (sq_pl_lt p j).1 (hQ j hj)⟩, hX, hB⟩, sq_fr_up h (fun a ⟨i, hi9, e⟩ => ⟨128 + i, by omega, e⟩)⟩
  · rw [(h.2.2.2.1 _ (no 141 (by omega) (by omega))).1]
    exact h4
  · rw [(h.2.2.2.1 _ (no 139 (by omega) (by omega))).1]
    exact hH1
  · rw [(h.2.2.2.1 _ (no 139 (by omega) (by omega))).1]
    exact hH2
theorem sq_fr_xs {x : Nat} {s : sq_Q} {k q : Nat} {fn fk ff fs : Nat → Int32} (hx : x = sq_E g 0) : sq_fr (sq_Xc g) S (sq_xs S x (sq_E g) s k q fn fk ff fs) := by
  subst hx
  exact sq_fr_tr (sq_fr_tr (sq_fr_tr (sq_fr_tr (sq_fr_tr (sq_fr_tr (sq_fr_tr (sq_fr_fi _ _ ⟨0, by omega, rfl⟩) (sq_fr_fi _ _ ⟨0, by omega, rfl⟩)) (sq_fr_fi _ _ ⟨0, by omega, rfl⟩)) (sq_fr_fi _ _ ⟨0, by omega, rfl⟩)) (sq_fr_ia _ ⟨4, by omega, rfl⟩)) (sq_fr_ia _ ⟨6, by omega, rfl⟩)) (sq_fr_ia _ ⟨8, by omega, rfl⟩)) (sq_fr_ia _ ⟨10, by omega, rfl⟩)
end
